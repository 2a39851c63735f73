import java.util.ArrayList;
import java.util.Arrays;
import java.util.Comparator;
import java.util.List;
import java.util.Random;

/** Runs of 512 calls, drawn from fixed seeds, against a second program that follows the document's words with lists. */
public final class ModelTests {
    private static final int RUNS = 3000;
    private static final int CALLS = 512;
    private static int wrong = 0;

    /** What a read meets when it is WRONG. */
    private static final class Wrong extends Exception {
        private static final long serialVersionUID = 1L;
        final int place;

        Wrong(int place) {
            this.place = place;
        }
    }

    private static final class Model {
        final int[][] sets = new int[3][94];
        List<Integer> collected = new ArrayList<>();
        List<Integer> text = List.of();
        List<Integer> other = List.of();
        List<Integer> written = new ArrayList<>();
        List<int[]> told = new ArrayList<>();
        int stand = 63;
        int on;

        Model() {
            for (int p = 0; p <= 29; p++) sets[0][p] = 192 + p;
            for (int p = 40; p <= 54; p++) sets[0][p] = 768 + p - 40;
            for (int p = 0; p <= 56; p++) sets[1][p] = 913 + p;
            for (int p = 0; p <= 63; p++) sets[2][p] = 1040 + p;
        }

        static boolean mark(int c) { return 768 <= c && c <= 782; }
        static boolean plain(int c) { return 32 <= c && c <= 126; }

        /** Letter and mark of a COMPOSED code, found by trying all of them; null for another code. */
        static int[] parts(int c) {
            if (c < 57344 || c > 65535) return null;
            String letters = "ABCDEFGHIJKLMNOPQRSTUVWXYZabcdefghijklmnopqrstuvwxyz";
            for (int m = 768; m <= 782; m++) {
                for (char l : letters.toCharArray()) {
                    if (57344 + 64 * (m - 768) + l - 64 == c) return new int[] {l, m};
                }
            }
            return null;
        }

        int[] find(int c) {
            for (int s = 0; s < 3 && c != 0; s++) {
                for (int p = 0; p < 94; p++) {
                    if (sets[s][p] == c) return new int[] {s, p};
                }
            }
            return null;
        }

        static List<Integer> order(List<Integer> codes) {
            List<Integer> result = new ArrayList<>();
            List<Integer> run = new ArrayList<>();
            for (int c : codes) {
                if (mark(c)) {
                    run.add(c);
                } else {
                    flush(run, result);
                    result.add(c);
                }
            }
            flush(run, result);
            return result;
        }

        static void flush(List<Integer> run, List<Integer> result) {
            run.sort(Comparator.comparingInt(m -> (m - 768) / 5));
            result.addAll(run);
            run.clear();
        }

        int read(int kind) {
            List<Integer> bytes = collected;
            collected = new ArrayList<>();
            try {
                List<Integer> codes = order(kind == 0 ? old(bytes) : fresh(bytes));
                other = text;
                text = codes;
                return codes.size();
            } catch (Wrong w) {
                return -1 - w.place;
            }
        }

        List<Integer> old(List<Integer> bytes) throws Wrong {
            List<Integer> codes = new ArrayList<>();
            List<int[]> marks = new ArrayList<>();
            int set = 0;
            int p = 0;
            while (p < bytes.size()) {
                int b = bytes.get(p);
                if (b == 27) {
                    boolean whole = p + 2 < bytes.size() && bytes.get(p + 1) == 103
                        && List.of(48, 49, 50).contains(bytes.get(p + 2));
                    if (!whole) throw new Wrong(p);
                    set = bytes.get(p + 2) - 48;
                    p += 3;
                    continue;
                }
                int c = plain(b) ? b : b >= 161 && b <= 254 ? sets[set][b - 161] : 0;
                if (c == 0) throw new Wrong(p);
                if (mark(c)) {
                    marks.add(new int[] {c, p});
                } else {
                    codes.add(c);
                    for (int[] m : marks) codes.add(m[0]);
                    if (codes.size() > 100) throw new Wrong(marks.isEmpty() ? p : marks.get(0)[1]);
                    marks.clear();
                }
                p++;
            }
            if (!marks.isEmpty()) throw new Wrong(marks.get(0)[1]);
            return codes;
        }

        List<Integer> fresh(List<Integer> bytes) throws Wrong {
            List<Integer> codes = new ArrayList<>();
            int p = 0;
            while (p < bytes.size()) {
                int found = -1;
                for (int size = 1; size <= 3 && p + size <= bytes.size(); size++) {
                    int c = guess(bytes, p, size);
                    if (c >= 0 && c <= 65535 && bytes(c).equals(bytes.subList(p, p + size))) found = c;
                }
                boolean known = plain(found) || find(found) != null || parts(found) != null;
                if (!known || mark(found) && codes.isEmpty() || codes.size() == 100) throw new Wrong(p);
                codes.add(found);
                p += bytes(found).size();
            }
            return codes;
        }

        static int guess(List<Integer> bytes, int p, int size) {
            int c = bytes.get(p) - (size == 1 ? 0 : size == 2 ? 192 : 224);
            for (int k = 1; k < size; k++) c = c * 64 + bytes.get(p + k) - 128;
            return c;
        }

        static List<Integer> bytes(int c) {
            if (c < 128) return List.of(c);
            if (c < 2048) return List.of(192 + c / 64, 128 + c % 64);
            return List.of(224 + c / 4096, 128 + c / 64 % 64, 128 + c % 64);
        }

        /** The characters that are no marks, each as its place in the text. */
        List<Integer> bases() {
            List<Integer> places = new ArrayList<>();
            for (int i = 0; i < text.size(); i++) if (!mark(text.get(i))) places.add(i);
            return places;
        }

        int write(int kind) {
            written = new ArrayList<>();
            told = new ArrayList<>();
            if (kind != 0) {
                for (int c : text) written.addAll(bytes(c));
                return written.size();
            }
            on = 0;
            List<Integer> ends = new ArrayList<>(bases());
            ends.add(text.size());
            for (int k = 0; k + 1 < ends.size(); k++) {
                int from = ends.get(k);
                int to = ends.get(k + 1);
                int c = text.get(from);
                if (plain(c) || find(c) != null) {
                    for (int i = from + 1; i < to; i++) put(text.get(i));
                    put(c);
                } else {
                    written.add(stand);
                    for (int i = from; i < to; i++) told.add(new int[] {text.get(i), i});
                }
            }
            return written.size();
        }

        void put(int c) {
            if (plain(c)) {
                written.add(c);
                return;
            }
            int[] at = find(c);
            if (at[0] != on) written.addAll(List.of(27, 103, 48 + at[0]));
            on = at[0];
            written.add(161 + at[1]);
        }

        static List<Integer> apart(List<Integer> codes) {
            List<Integer> result = new ArrayList<>();
            for (int c : codes) {
                int[] parts = parts(c);
                if (parts == null) result.add(c);
                else result.addAll(List.of(parts[0], parts[1]));
            }
            return order(result);
        }

        int compose(int form) {
            if (form != 0 && form != 1) return -1;
            List<Integer> result = apart(text);
            for (int i = 0; form == 1 && i + 1 < result.size(); i++) {
                int c = result.get(i);
                if (Character.isLetter(c) && c < 128 && mark(result.get(i + 1))) {
                    result.set(i, 57344 + 64 * (result.get(i + 1) - 768) + c - 64);
                    result.remove(i + 1);
                }
            }
            if (result.size() > 100) return -1;
            text = result;
            return result.size();
        }

        int told(int i, int what) {
            return i < 0 || i >= told.size() || what < 0 || what > 1 ? -1 : told.get(i)[what];
        }

        int stand(int code) {
            if (!plain(code)) return -1;
            int before = stand;
            stand = code;
            return before;
        }

        int nonfiling(int count, int of) {
            List<Integer> bases = bases();
            if (count < 0 || of < 0 || count > bases.size()) return -1;
            List<Integer> key = bases.subList(count, bases.size());
            if (of >= key.size()) return 0;
            int c = apart(List.of(text.get(key.get(of)))).get(0);
            return c < 128 ? Character.toLowerCase(c) : c;
        }

        int marks(int i) {
            List<Integer> ends = bases();
            if (i < 0 || i >= ends.size()) return -1;
            int to = i + 1 < ends.size() ? ends.get(i + 1) : text.size();
            return apart(text.subList(ends.get(i), to)).size() - 1;
        }

        String row(int set, int i) {
            if (set < 0 || set > 2) return "-1";
            return i < 0 || i > 93 ? "throws" : String.valueOf(sets[set][i]);
        }

        boolean same(int which) {
            return which == 0 || which == 1 && apart(other).equals(apart(text));
        }
    }

    private static String row(CharacterRows x, int set, int i) {
        try {
            return String.valueOf(x.row(set, i));
        } catch (ArrayIndexOutOfBoundsException e) {
            return "throws";
        }
    }

    private static int pick(Random r, int... from) {
        return from[r.nextInt(from.length)];
    }

    private static int oldByte(Random r, int oddness) {
        int draw = r.nextInt(100);
        if (draw < oddness) return r.nextInt(256);
        if (draw < 40) return pick(r, 'a', 'B', 'z', 'Z', ' ', '@', '~');
        return draw < 60 ? 161 + r.nextInt(30) : 201 + r.nextInt(15);
    }

    private static int code(Random r, int oddness) {
        if (r.nextInt(100) < oddness) return r.nextInt(65536);
        switch (r.nextInt(7)) {
            case 0: return 192 + r.nextInt(30);
            case 1: return 913 + r.nextInt(57);
            case 2: return 1040 + r.nextInt(64);
            case 3: return 57344 + 64 * r.nextInt(15) + pick(r, 1, 26, 33, 58);
            case 4: return pick(r, 'a', 'B', 'z', 'Z', ' ', '@', '~');
            default: return 768 + r.nextInt(15);
        }
    }

    /** Octets for one read, at times more than are kept. */
    private static List<Integer> octets(Random r, int kind, int oddness) {
        List<Integer> bytes = new ArrayList<>();
        int most = r.nextInt(4) == 0 ? 60 + r.nextInt(150) : r.nextInt(30);
        while (bytes.size() < most) {
            if (kind != 0) {
                bytes.addAll(Model.bytes(bytes.isEmpty() && r.nextInt(20) != 0 ? 'a' : code(r, oddness)));
            } else if (r.nextInt(8) == 0) {
                bytes.addAll(List.of(27, 103, 48 + r.nextInt(oddness > 0 ? 4 : 3)));
            } else {
                bytes.add(oldByte(r, oddness));
            }
            if (r.nextInt(60) == 0) bytes.remove(bytes.size() - 1);
        }
        if (kind == 0 && r.nextInt(4) != 0) bytes.add((int) 'e');
        return bytes;
    }

    private static int index(Random r) {
        return r.nextInt(12) == 0 ? pick(r, -1, 93, 94, 99, 100, 399, 400, Integer.MAX_VALUE, Integer.MIN_VALUE) : r.nextInt(r.nextBoolean() ? 6 : 110);
    }

    private static int kind(Random r) {
        return pick(r, 0, 0, 0, 0, 1, 1, 1, 1, 2, -1);
    }

    private static void due(long seed, String call, Object got, Object want) {
        if (!got.equals(want)) {
            wrong++;
            System.out.println("seed " + seed + ": " + call + " answered " + got + ", due is " + want);
        }
    }

    private static void otherCall(long seed, Random r, CharacterRows x, Model m) {
        int i = index(r);
        int j = index(r);
        int few = r.nextInt(5) - 1;
        switch (r.nextInt(11)) {
            case 0: due(seed, "character", x.character(i), i < 0 || i >= m.text.size() ? -1 : m.text.get(i)); break;
            case 1: due(seed, "write", x.write(few), m.write(few)); break;
            case 2: due(seed, "write", x.write(0), m.write(0)); break;
            case 3: due(seed, "octet2", x.octet2(i), i < 0 || i >= m.written.size() ? (byte) 0 : m.written.get(i).byteValue()); break;
            case 4: due(seed, "compose", x.compose(few), m.compose(few)); break;
            case 5: due(seed, "told", x.told(i, few), m.told(i, few)); break;
            case 6: due(seed, "stand", x.stand(i), m.stand(i)); break;
            case 7: due(seed, "nonfiling", x.nonfiling(i, j), m.nonfiling(i, j)); break;
            case 8: due(seed, "mark", x.mark(i), m.marks(i)); break;
            case 9: due(seed, "row", row(x, few, i), m.row(few, i)); break;
            default: due(seed, "same", x.same(few), m.same(few)); break;
        }
    }

    /** Looks at the rows from their beginning, or from their end, as far as the calls that are left reach. */
    private static void whole(long seed, CharacterRows x, Model m, int left) {
        boolean back = seed % 2 == 0;
        due(seed, "write(0)", x.write(0), m.write(0));
        int calls = left - 1;
        for (int k = 0; k <= m.written.size() && calls > 0; k++, calls--) {
            int i = back ? m.written.size() - k : k;
            due(seed, "octet2(" + i + ")", x.octet2(i), i < m.written.size() ? m.written.get(i).byteValue() : (byte) 0);
        }
        for (int k = 0; k <= m.text.size() && calls > 0; k++, calls--) {
            int i = back ? m.text.size() - k : k;
            due(seed, "character(" + i + ")", x.character(i), i < m.text.size() ? m.text.get(i) : -1);
        }
        for (int i = 0; i <= m.told.size() && calls > 1; i++, calls -= 2) {
            due(seed, "told(" + i + ", 0)", x.told(i, 0), m.told(i, 0));
            due(seed, "told(" + i + ", 1)", x.told(i, 1), m.told(i, 1));
        }
    }

    private static void run(long seed, int[] seen) {
        Random r = new Random(seed);
        CharacterRows x = new CharacterRows();
        Model m = new Model();
        int oddness = pick(r, 0, 0, 0, 1, 10);
        int kept = pick(r, 10, 50, 250);
        int left = CALLS;
        List<Integer> before = List.of();
        while (left > kept) {
            int kind = kind(r);
            List<Integer> bytes = r.nextInt(5) == 0 ? before : octets(r, kind, oddness);
            if (r.nextInt(10) != 0 || bytes.size() + 1 > left - kept) {
                otherCall(seed, r, x, m);
                left--;
                continue;
            }
            before = bytes;
            for (int b : bytes) {
                x.octet((byte) b);
                if (m.collected.size() < 200) m.collected.add(b);
            }
            int want = m.read(kind);
            due(seed, "read(" + kind + ") of " + bytes, x.read(kind), want);
            left -= bytes.size() + 1;
            seen[want < 0 ? 0 : want == 0 ? 1 : want < 60 ? 2 : 3]++;
        }
        whole(seed, x, m, left);
    }

    public static void main(String[] args) {
        int[] seen = new int[4];
        for (long seed = 1; seed <= RUNS && wrong < 20; seed++) {
            run(seed, seen);
        }
        System.out.println("reads: wrong, empty, short, long: " + Arrays.toString(seen));
        for (int count : seen) {
            if (count < 100) {
                wrong++;
                System.out.println("the runs no longer meet every kind of read");
            }
        }
        System.out.println(wrong == 0 ? "all answers are as due" : wrong + " answers are not as due");
        if (wrong != 0) {
            System.exit(1);
        }
    }
}
