import java.lang.reflect.Constructor;
import java.lang.reflect.Executable;
import java.lang.reflect.Field;
import java.lang.reflect.Method;
import java.lang.reflect.Modifier;
import java.nio.file.Files;
import java.nio.file.Path;
import java.util.Set;
import java.util.TreeSet;

/** The class has the document's face and nothing more, and its source keeps clear of what LANGUAGE.md shuts out. */
public final class FaceTests {
    private static final Set<String> FACE = Set.of(
        "public CharacterRows()",
        "public void CharacterRows.octet(byte)",
        "public int CharacterRows.read(int)",
        "public int CharacterRows.character(int)",
        "public int CharacterRows.write(int)",
        "public byte CharacterRows.octet2(int)",
        "public int CharacterRows.compose(int)",
        "public int CharacterRows.told(int,int)",
        "public int CharacterRows.stand(int)",
        "public int CharacterRows.nonfiling(int,int)",
        "public int CharacterRows.mark(int)",
        "public int CharacterRows.row(int,int) throws java.lang.ArrayIndexOutOfBoundsException",
        "public boolean CharacterRows.same(int)",
        "public static final int CharacterRows.NONE");
    private static int wrong = 0;

    private static void check(boolean right, String what) {
        if (!right) {
            wrong++;
            System.out.println(what);
        }
    }

    private static void checkFace() {
        Set<String> seen = new TreeSet<>();
        for (Constructor<?> c : CharacterRows.class.getDeclaredConstructors()) {
            note(seen, c, c.toString());
        }
        for (Method m : CharacterRows.class.getDeclaredMethods()) {
            note(seen, m, m.toString());
        }
        for (Field f : CharacterRows.class.getDeclaredFields()) {
            if (!Modifier.isPrivate(f.getModifiers())) {
                seen.add(f.toString());
            }
            check(!Modifier.isStatic(f.getModifiers()) || Modifier.isFinal(f.getModifiers()), "not final: " + f);
        }
        check(seen.equals(FACE), "the face is " + seen);
        check(CharacterRows.class.getModifiers() == (Modifier.PUBLIC | Modifier.FINAL), "not public and final");
    }

    private static void note(Set<String> seen, Executable member, String text) {
        if (!Modifier.isPrivate(member.getModifiers())) {
            seen.add(text);
        }
        check(member.getParameterCount() <= 7, "too many parameters: " + text);
    }

    private static void checkPrivateNames() {
        for (Method hidden : CharacterRows.class.getDeclaredMethods()) {
            for (Method open : CharacterRows.class.getMethods()) {
                boolean clash = Modifier.isPrivate(hidden.getModifiers()) && hidden.getName().equals(open.getName());
                check(!clash, "a private method bears a public one's name: " + hidden);
            }
        }
        for (Class<?> inside : CharacterRows.class.getDeclaredClasses()) {
            boolean hidden = !Modifier.isPublic(inside.getModifiers()) && !Modifier.isProtected(inside.getModifiers());
            check(hidden && Modifier.isStatic(inside.getModifiers()), "not a hidden static class: " + inside);
        }
    }

    private static void checkSource() throws Exception {
        String path = System.getProperty("main.source", "src/main/java/CharacterRows.java");
        String source = Files.readString(Path.of(path));
        for (String shut : new String[] {"import ", "package ", "catch", "finally", "->", "::", "synchronized", "assert "}) {
            check(!source.contains(shut), "the source has " + shut);
        }
    }

    public static void main(String[] args) throws Exception {
        checkFace();
        checkPrivateNames();
        checkSource();
        System.out.println(wrong == 0 ? "the face is as due" : wrong + " things are not as due");
        if (wrong != 0) {
            System.exit(1);
        }
    }
}
