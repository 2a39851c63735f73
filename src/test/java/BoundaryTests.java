import java.nio.file.Files;
import java.nio.file.Path;
import java.util.Arrays;
import java.util.TreeSet;
import java.util.function.Function;

/**
 * For each sentence of DOC.md that names a boundary case a test of its own. A test's name is its heading in the
 * document and the sentence's own words, which must stand there; no object is called more than 512 times.
 */
public final class BoundaryTests {
    private static final int ESC = 27;
    private static final int NONE = CharacterRows.NONE;
    private static final int LARGEST = Integer.MAX_VALUE;
    private static final int LEAST = Integer.MIN_VALUE;
    private static final int[] NO_INDEX = {-1, LARGEST, LEAST};

    private static String document = "";
    private static String test = "";
    private static int tests = 0;
    private static int checks = 0;
    private static int wrong = 0;
    private static final TreeSet<String> names = new TreeSet<>();

    private static void fault(String what) {
        wrong++;
        System.out.println(test + ": " + what);
    }

    private static void sentence(String heading, String words, Runnable body) {
        test = heading + ", \"" + words + "\"";
        tests++;
        int faults = wrong;
        if (!names.add(test)) {
            fault("two tests have this name");
        }
        if (!document.isEmpty() && !partUnder(heading).contains(words)) {
            fault("the document does not say this there");
        }
        int before = checks;
        body.run();
        if (checks == before) {
            fault("nothing was checked");
        }
        System.out.println((wrong == faults ? "  holds: " : "  BROKEN: ") + test);
    }

    private static String partUnder(String heading) {
        int from = document.indexOf("## " + heading + "\n");
        if (from < 0) {
            return "";
        }
        int to = document.indexOf("\n## ", from);
        return to < 0 ? document.substring(from) : document.substring(from, to);
    }

    private static void due(String call, long got, long want) {
        checks++;
        if (got != want) {
            fault(call + " answered " + got + ", due is " + want);
        }
    }

    private static void due(String call, boolean got, boolean want) {
        due(call, got ? 1 : 0, want ? 1 : 0);
    }

    private static void due(String what, String got, String want) {
        checks++;
        if (!got.equals(want)) {
            fault(what + " is " + got + ", due is " + want);
        }
    }

    private static void due(String what, int[] got, int... want) {
        due(what, Arrays.toString(got), Arrays.toString(want));
    }

    /** An object of the class with its calls counted: the document promises 512 of them. */
    private static final class Rows {
        private final CharacterRows rows = new CharacterRows();
        private int calls = 0;

        CharacterRows call() {
            calls++;
            if (calls == 513) {
                fault("the test calls one object more than 512 times");
            }
            return rows;
        }

        Rows collect(int... bytes) {
            for (int b : bytes) {
                call().octet((byte) b);
            }
            return this;
        }

        int read(int kind, int... bytes) {
            return collect(bytes).call().read(kind);
        }

        int character(int i) {
            return call().character(i);
        }

        int write(int kind) {
            return call().write(kind);
        }

        int octet2(int i) {
            return call().octet2(i);
        }

        int compose(int form) {
            return call().compose(form);
        }

        int told(int i, int what) {
            return call().told(i, what);
        }

        int stand(int code) {
            return call().stand(code);
        }

        int nonfiling(int count, int of) {
            return call().nonfiling(count, of);
        }

        int mark(int i) {
            return call().mark(i);
        }

        boolean same(int other) {
            return call().same(other);
        }

        /** What row answers, as a text: it may also throw. */
        String row(int set, int i) {
            try {
                return String.valueOf(call().row(set, i));
            } catch (RuntimeException e) {
                return "throws." + e.getClass().getSimpleName();
            }
        }

        int[] text() {
            int[] codes = new int[100];
            int n = 0;
            while (n < codes.length && character(n) != NONE) {
                codes[n] = character(n);
                n++;
            }
            return Arrays.copyOf(codes, n);
        }

        /** No byte that is written is 0, so the first 0 is the end. */
        int[] bytes() {
            int[] row = new int[400];
            int n = 0;
            while (n < row.length && octet2(n) != 0) {
                row[n] = octet2(n) & 255;
                n++;
            }
            return Arrays.copyOf(row, n);
        }

        int[] written(int kind) {
            write(kind);
            return bytes();
        }

        int[] told(int what) {
            int[] row = new int[100];
            int n = 0;
            while (n < row.length && told(n, what) != NONE) {
                row[n] = told(n, what);
                n++;
            }
            return Arrays.copyOf(row, n);
        }

        /** All that can be seen of the object, which looks the same as before when this has been called. */
        String look() {
            int standIn = stand(63);
            stand(standIn);
            return "text " + Arrays.toString(text()) + " written " + Arrays.toString(bytes())
                + " told " + Arrays.toString(told(0)) + Arrays.toString(told(1))
                + " stand-in " + standIn + " same " + same(1);
        }
    }

    /** An object with a TEXT, an OTHER, written bytes, told characters and a stand-in that are all its own. */
    private static Rows busy() {
        Rows x = holding('o', 'l', 'd');
        x.read(1, utf('a', composed('e', 769), 770, 913));
        x.stand('#');
        x.write(0);
        return x;
    }

    private static Rows holding(int... codes) {
        Rows x = new Rows();
        due("read(1) of " + Arrays.toString(codes), x.read(1, utf(codes)), codes.length);
        return x;
    }

    private static int read(int kind, int... bytes) {
        return new Rows().read(kind, bytes);
    }

    private static int[] textOf(int kind, int... bytes) {
        Rows x = new Rows();
        x.read(kind, bytes);
        return x.text();
    }

    private static int[] utf(int... codes) {
        int[] row = new int[0];
        for (int c : codes) {
            int[] bytes = c < 128 ? new int[] {c}
                : c < 2048 ? new int[] {192 + c / 64, 128 + c % 64}
                : new int[] {224 + c / 4096, 128 + c / 64 % 64, 128 + c % 64};
            row = join(row, bytes);
        }
        return row;
    }

    private static int composed(int letter, int mark) {
        return 57344 + 64 * (mark - 768) + letter - 64;
    }

    private static int[] row(int... values) {
        return values;
    }

    private static int[] many(int count, int... part) {
        int[] row = new int[count * part.length];
        for (int i = 0; i < row.length; i++) {
            row[i] = part[i % part.length];
        }
        return row;
    }

    private static int[] join(int[]... parts) {
        int[] row = new int[0];
        for (int[] part : parts) {
            int at = row.length;
            row = Arrays.copyOf(row, at + part.length);
            System.arraycopy(part, 0, row, at, part.length);
        }
        return row;
    }

    /** Where an object can be seen to hold what it held before a refused call. */
    private static void refused(String call, Function<Rows, Object> refusal, Object want) {
        Rows x = busy();
        String before = x.look();
        due(call, String.valueOf(refusal.apply(x)), String.valueOf(want));
        due("what can be seen after " + call, x.look(), before);
    }

    private static void whatItIs() {
        String at = "What it is";
        sentence(at, "An object is used for at most 512 calls after it has been made", () -> {
            Rows x = new Rows();
            x.collect(many(250, 'a'));
            x.collect(many(250, 'b'));
            due("call 501, read(1)", x.read(1), -101);
            due("call 506, read(0)", x.read(0, 201, 'c', 206, 'd'), 4);
            due("call 507, compose(1)", x.compose(1), 2);
            due("call 508, write(0)", x.write(0), 2);
            due("call 509, told(1, 0)", x.told(1, 0), composed('d', 773));
            due("call 510, mark(1)", x.mark(1), 1);
            due("call 511, same(1)", x.same(1), false);
            due("call 512, character(1)", x.character(1), composed('d', 773));
        });
    }

    private static void termsCharacters() {
        String at = "Terms";
        sentence(at, "32 .. 126 are PLAIN", () -> {
            for (int kind = 0; kind <= 1; kind++) {
                due("read of 31", read(kind, 31), -1);
                due("read of 32", textOf(kind, 32), 32);
                due("read of 126", textOf(kind, 126), 126);
                due("read of 127", read(kind, 127), -1);
            }
        });
        sentence(at, "each a row of 94 codes, 0 for none", () -> {
            for (int set = 0; set <= 2; set++) {
                Rows x = new Rows();
                due("row(" + set + ", 93)", x.row(set, 93), "0");
                due("row(" + set + ", 94)", x.row(set, 94), "throws.ArrayIndexOutOfBoundsException");
            }
        });
        sentence(at, "set 0 has at places 0 .. 29 the codes 192 + place", () -> checkRange(0, 0, 29, 192));
        sentence(at, "at places 40 .. 54 the MARKS 768 .. 782", () -> {
            due("row(0, 39)", new Rows().row(0, 39), "0");
            checkRange(0, 40, 54, 768);
        });
        sentence(at, "set 1 at places 0 .. 56 the codes 913 + place", () -> checkRange(1, 0, 56, 913));
        sentence(at, "set 2 at places 0 .. 63 the codes 1040 + place", () -> checkRange(2, 0, 63, 1040));
    }

    /** The first and the last place of a range, and the place behind it, in row and in both kinds of bytes. */
    private static void checkRange(int set, int from, int to, int code) {
        Rows x = new Rows();
        due("row of the first", x.row(set, from), String.valueOf(code));
        due("row of the last", x.row(set, to), String.valueOf(code + to - from));
        due("row behind the last", x.row(set, to + 1), "0");
        int[] escape = {ESC, 103, 48 + set};
        int last = code + to - from;
        // An 'e' stands ahead (kind 1) and behind (kind 0), so that the marks of set 0 have an owner too.
        Rows y = new Rows();
        due("read(0) of both", y.read(0, join(escape, row(161 + from, 161 + to, 'e'))), 3);
        due("both are there", new TreeSet<>(Arrays.asList(y.character(0), y.character(1), y.character(2))).toString(),
            new TreeSet<>(Arrays.asList(code, last, (int) 'e')).toString());
        due("read(0) of the place behind", read(0, join(escape, row(161 + to + 1, 'e'))), -4);
        due("read(1) of both", textOf(1, utf('e', code, last)), 'e', code, last);
        due("read(1) of the code ahead", read(1, utf('e', code - 1)), -2);
        due("read(1) of the code behind", read(1, utf('e', last + 1)), -2);
    }

    private static void termsMarks() {
        String at = "Terms";
        sentence(at, "MARKS are the codes 768 .. 782", () -> {
            due("mark behind 768 and 782", holding('a', 768, 782).mark(0), 2);
            due("read of 767", read(1, utf('a', 767)), -2);
            due("read of 783", read(1, utf('a', 783)), -2);
            due("221 and 913 are no marks", holding('a', 221, 913).mark(0), 0);
        });
        sentence(at, "a mark belongs to what stands ahead of it", () -> {
            Rows x = holding('a', 768, 'b', 769, 770);
            due("mark(0)", x.mark(0), 1);
            due("mark(1)", x.mark(1), 2);
        });
        sentence(at, "A mark's RANK is (code - 768) / 5 (cut).", () -> {
            due("772 behind 773", textOf(1, utf('a', 773, 772)), 'a', 772, 773);
            due("773 behind 777", textOf(1, utf('a', 777, 773)), 'a', 777, 773);
            due("777 behind 778", textOf(1, utf('a', 778, 777)), 'a', 777, 778);
            due("768 behind 772", textOf(1, utf('a', 772, 768)), 'a', 772, 768);
            due("778 behind 782", textOf(1, utf('a', 782, 778)), 'a', 782, 778);
        });
        sentence(at, "COMPOSED codes stand for a LETTER (65 .. 90, 97 .. 122) and a mark", () -> {
            for (int mark : row(768, 782)) {
                for (int letter : row('A', 'Z', 'a', 'z')) {
                    Rows x = holding(composed(letter, mark));
                    due("compose(0)", x.compose(0), 2);
                    due("letter and mark", x.text(), letter, mark);
                }
                for (int beside : row('A' - 1, 'Z' + 1, 'a' - 1, 'z' + 1)) {
                    due("read of one beside the letters", read(1, utf('a', composed(beside, mark))), -2);
                }
            }
        });
        sentence(at, "57344 + 64 * (mark - 768) + LETTER - 64", () -> {
            due("the least, 57345", textOf(1, 238, 128, 129), 57345);
            due("the largest, 58298", textOf(1, 238, 142, 186), 58298);
            due("read of 57344", read(1, 238, 128, 128), -1);
            due("read of 58299", read(1, 238, 142, 187), -1);
            due("read of 'A' and a mark 767", read(1, utf(composed('A', 767))), -1);
            due("read of 'A' and a mark 783", read(1, utf(composed('A', 783))), -1);
        });
    }

    private static void termsOldKind() {
        String at = "Terms";
        sentence(at, "a byte 32 .. 126 is PLAIN", () -> {
            for (int set = 48; set <= 50; set++) {
                due("in set " + (set - 48), textOf(0, ESC, 103, set, 32, 126), 32, 126);
            }
        });
        sentence(at, "161 .. 254 is place byte - 161 of the set that is on", () -> {
            for (int set = 0; set <= 2; set++) {
                int[] escape = {ESC, 103, 48 + set};
                int first = set == 0 ? 192 : set == 1 ? 913 : 1040;
                due("160", read(0, join(escape, row(160))), -4);
                due("161", textOf(0, join(escape, row(161))), first);
                due("254, whose place has 0", read(0, join(escape, row(254))), -4);
                due("255", read(0, join(escape, row(255))), -4);
            }
        });
        sentence(at, "(set 0 at the beginning)", () -> {
            due("161 first", textOf(0, 161), 192);
            Rows x = new Rows();
            x.read(0, ESC, 103, 50, 161);
            x.read(0, 161);
            due("161 first, after a read that ended in set 2", x.text(), 192);
            x.read(0, ESC, 103, 50, 161, 10);
            x.read(0, 161);
            due("161 first, after a WRONG read in set 2", x.text(), 192);
        });
        sentence(at, "behind it stands 103, then 48, 49 or 50: set 0, 1, 2 is on", () -> {
            due("48", textOf(0, ESC, 103, 48, 161), 192);
            due("49", textOf(0, ESC, 103, 49, 161), 913);
            due("50", textOf(0, ESC, 103, 50, 161), 1040);
            due("50, 49, 48", textOf(0, ESC, 103, 50, ESC, 103, 49, ESC, 103, 48, 161), 192);
            due("escapes alone", read(0, ESC, 103, 49, ESC, 103, 49), 0);
            due("one at the end", textOf(0, 'a', ESC, 103, 49), 'a');
        });
        sentence(at, "Marks stand AHEAD of the character they belong to, in the order in which they stand behind it as characters.", () -> {
            due("read", textOf(0, 'a', 203, 201, 'b', 202, 'c'), 'a', 'b', 770, 768, 'c', 769);
            due("written", holding('a', 'b', 770, 768, 'c', 769).written(0), 'a', 203, 201, 'b', 202, 'c');
            due("an escape between mark and character", textOf(0, 201, ESC, 103, 49, 161), 913, 768);
        });
    }

    private static void termsOldKindWrong() {
        String at = "Terms";
        sentence(at, "WRONG: another byte", () -> {
            for (int b = 0; b <= 255; b++) {
                if (b < 32 && b != ESC || b > 126 && b < 161 || b == 255) {
                    due("byte " + b + " first", read(0, b), -1);
                    due("byte " + b + " behind two", read(0, 'a', 'b', b, 'c'), -3);
                }
            }
        });
        sentence(at, "or a place of a set with 0 (that byte)", () -> {
            for (int set = 0; set <= 2; set++) {
                for (int place = 0; place < 94; place++) {
                    boolean none = new Rows().row(set, place).equals("0");
                    int got = read(0, 'a', ESC, 103, 48 + set, 161 + place, 'b');
                    due("set " + set + ", place " + place + " is WRONG", got == -5, none);
                }
            }
        });
        sentence(at, "an ESCAPE that goes on otherwise", () -> {
            due("102", read(0, 'a', ESC, 102, 49, 'b'), -2);
            due("104", read(0, 'a', ESC, 104, 49, 'b'), -2);
            due("47", read(0, 'a', ESC, 103, 47, 'b'), -2);
            due("51", read(0, 'a', ESC, 103, 51, 'b'), -2);
            due("two 27", read(0, ESC, ESC, 103, 49), -1);
            due("a set alone", read(0, ESC, 49), -1);
            due("behind a mark", read(0, 201, ESC, 103, 51, 'b'), -2);
        });
        sentence(at, "or ends (the 27)", () -> {
            due("27 alone", read(0, ESC), -1);
            due("27 last", read(0, 'a', ESC), -2);
            due("27, 103 last", read(0, 'a', ESC, 103), -2);
            due("behind one that is right", read(0, ESC, 103, 49, ESC, 103), -4);
        });
        sentence(at, "marks behind which the text ends (the first of these)", () -> {
            due("one mark alone", read(0, 201), -1);
            due("three marks alone", read(0, 215, 201, 206), -1);
            due("marks behind a character", read(0, 'a', 201, 202), -2);
            due("marks behind a character with marks", read(0, 201, 'a', 202, 203), -3);
            due("200 marks", read(0, many(200, 201)), -1);
            due("marks and an escape", read(0, 'a', 201, 202, ESC, 103, 49), -2);
        });
    }

    private static void termsNewKind() {
        String at = "Terms";
        sentence(at, "codes below 128: one byte", () -> {
            due("126 is one byte", holding(126).written(1), 126);
            due("127 is one byte, and no character", read(1, 'a', 127, 'b'), -2);
            due("128 in two bytes is no character", read(1, 'a', 194, 128, 'b'), -2);
        });
        sentence(at, "below 2048: 192 + code / 64, 128 + code % 64", () -> {
            due("192", holding(192).written(1), 195, 128);
            due("959", holding(959).written(1), 206, 191);
            due("960", holding(960).written(1), 207, 128);
            due("1103", holding(1103).written(1), 209, 143);
            due("2047 in two bytes is no character", read(1, 'a', 223, 191, 'b'), -2);
        });
        sentence(at, "others to 65535: 224 + code / 4096, 128 + code / 64 % 64, 128 + code % 64", () -> {
            due("57345", holding(57345).written(1), 238, 128, 129);
            due("58298", holding(58298).written(1), 238, 142, 186);
            due("2048 in three bytes is no character", read(1, 'a', 224, 160, 128, 'b'), -2);
            due("65535 in three bytes is no character", read(1, 'a', 239, 191, 191, 'b'), -2);
        });
        sentence(at, "WRONG: a byte that begins none of these", () -> {
            for (int b = 128; b <= 255; b++) {
                if (b < 192 || b >= 240) {
                    due("byte " + b, read(1, 'a', b, 128, 129, 129), -2);
                }
            }
        });
        sentence(at, "or a longer one that has not the bytes 128 .. 191 behind it that it must have", () -> {
            due("two bytes, 127, which would be 959", read(1, 'a', 207, 127), -2);
            due("two bytes, 128", textOf(1, 'a', 207, 128), 'a', 960);
            due("two bytes, 191", textOf(1, 'a', 206, 191), 'a', 959);
            due("two bytes, 192, which would be 960", read(1, 'a', 206, 192), -2);
            due("two bytes end", read(1, 'a', 206), -2);
            due("three bytes, second 127", read(1, 'a', 238, 127, 129), -2);
            due("three bytes, second 64, which would be 57345", read(1, 'a', 239, 64, 129), -2);
            due("three bytes, second 192, which would be 57345", read(1, 'a', 237, 192, 129), -2);
            due("three bytes, third 127", read(1, 'a', 238, 129, 127), -2);
            due("three bytes, third 122, which would be 57402", read(1, 'a', 238, 129, 122), -2);
            due("three bytes, third 192", read(1, 'a', 238, 128, 192), -2);
            due("three bytes, third 193, which would be 57409", read(1, 'a', 238, 128, 193), -2);
            due("three bytes end at one", read(1, 'a', 238), -2);
            due("three bytes end at two", read(1, 'a', 238, 128), -2);
            due("a character where a byte must be", read(1, 'a', 206, 'b', 'c'), -2);
        });
        sentence(at, "or a code in more bytes than it needs (its first byte)", () -> {
            due("'a' in two", read(1, 'b', 193, 161), -2);
            due("126 in two", read(1, 193, 190), -1);
            due("127 in two", read(1, 193, 191), -1);
            due("0 in two", read(1, 192, 128), -1);
            due("'a' in three", read(1, 'b', 224, 129, 161), -2);
            due("192 in three", read(1, 'b', 224, 131, 128), -2);
            due("1103 in three", read(1, 'b', 224, 145, 143), -2);
            due("a mark in three", read(1, 'b', 224, 140, 128), -2);
            due("2047 in three", read(1, 224, 159, 191), -1);
        });
    }

    private static void termsNewKindWrongCodes() {
        String at = "Terms";
        sentence(at, "a code that is neither PLAIN, nor one of a set, nor COMPOSED (its first byte)", () -> {
            int[] beside = {0, 27, 31, 127, 128, 191, 222, 255, 767, 783, 912, 970, 1039, 1104, 2047, 2048,
                55296, 57343, 57344, 57371, 57376, 57403, 57408, 58299, 58304, 58305, 65535};
            for (int code : beside) {
                due("code " + code + " first", read(1, utf(code)), -1);
                due("code " + code + " behind four bytes", read(1, utf('a', 913, 'b', code, 'c')), -5);
            }
        });
        sentence(at, "a mark at the beginning (0)", () -> {
            due("768 alone", read(1, utf(768)), -1);
            due("782 ahead of a letter", read(1, utf(782, 'a')), -1);
            due("two marks", read(1, utf(782, 768, 'a')), -1);
            due("all 15 of them", marksRefusedFirst(), 15);
            due("behind a space", read(1, utf(' ', 768)), 2);
        });
    }

    private static int marksRefusedFirst() {
        int refusals = 0;
        for (int mark = 768; mark <= 782; mark++) {
            refusals += read(1, utf(mark, 'a')) == -1 ? 1 : 0;
        }
        return refusals;
    }

    private static void termsText() {
        String at = "Terms";
        sentence(at, "THE TEXT has at most 100 characters", () -> {
            due("99", read(1, many(99, 'a')), 99);
            due("100", read(1, many(100, 'a')), 100);
            due("101", read(1, many(101, 'a')), -101);
            due("100 of two bytes", read(1, many(100, utf(913))), 100);
            due("a mark is one of them", read(1, join(many(99, 'a'), utf(768, 769))), -102);
        });
        sentence(at, "of marks that stand one behind another those of a lower RANK come first", () -> {
            due("three ranks", textOf(1, utf('a', 778, 773, 768)), 'a', 768, 773, 778);
            due("kind 0", textOf(0, 211, 206, 201, 'a'), 'a', 768, 773, 778);
            due("not across a character", textOf(1, utf('a', 778, 'b', 768)), 'a', 778, 'b', 768);
            due("not across a COMPOSED one", textOf(1, utf('a', 778, composed('b', 773), 768)), 'a', 778, composed('b', 773), 768);
            due("99 marks", textOf(0, join(many(50, 215), many(49, 201), row('a'))),
                join(row('a'), many(49, 768), many(50, 782)));
        });
        sentence(at, "those of one rank stay as they are", () -> {
            due("turned about", textOf(1, utf('a', 772, 770, 768)), 'a', 772, 770, 768);
            due("around another rank", textOf(1, utf('a', 777, 780, 773, 768, 778)), 'a', 768, 777, 773, 780, 778);
            due("the same one twice", textOf(1, utf('a', 773, 768, 773)), 'a', 768, 773, 773);
        });
        sentence(at, "`NONE = -1`: None such.", () -> due("NONE", NONE, -1));
    }

    private static void promise1() {
        String at = "Promise 1: A new object";
        sentence(at, "Nothing is collected", () -> {
            due("read(0)", new Rows().read(0), 0);
            due("read(1)", new Rows().read(1), 0);
        });
        sentence(at, "the TEXT and the OTHER are empty", () -> {
            Rows x = new Rows();
            due("character(0)", x.character(0), NONE);
            due("mark(0)", x.mark(0), NONE);
            due("nonfiling(0, 0)", x.nonfiling(0, 0), 0);
            due("nonfiling(1, 0)", x.nonfiling(1, 0), NONE);
            due("compose(0)", x.compose(0), 0);
            due("compose(1)", x.compose(1), 0);
            due("write(0)", x.write(0), 0);
            due("write(1)", x.write(1), 0);
            due("same(1)", x.same(1), true);
            x.read(1, 'a');
            due("same(1) after one read", x.same(1), false);
        });
        sentence(at, "nothing was written", () -> {
            Rows x = new Rows();
            due("octet2(0)", x.octet2(0), 0);
            due("told(0, 0)", x.told(0, 0), NONE);
            due("told(0, 1)", x.told(0, 1), NONE);
        });
        sentence(at, "each stand-in is 63", () -> {
            due("stand(64)", new Rows().stand(64), 63);
            due("stand(64) of another object", new Rows().stand(64), 63);
            due("written", holding(composed('A', 768), composed('z', 782)).written(0), 63, 63);
        });
    }

    private static void promise2() {
        String at = "Promise 2: octet";
        sentence(at, "A byte more is collected", () -> {
            due("none", read(1), 0);
            due("one", textOf(1, 'a'), 'a');
            due("byte 127", read(0, Byte.MAX_VALUE), -1);
            due("byte -128", read(0, Byte.MIN_VALUE), -1);
            due("byte -1", read(0, -1), -1);
        });
        sentence(at, "beyond 200 it is lost", () -> {
            int[] filler = many(66, ESC, 103, 49);
            due("the 199th and 200th", textOf(0, join(filler, row('x', 'y'))), 'x', 'y');
            due("the 201st", textOf(0, join(filler, row('x', 'y', 'z'))), 'x', 'y');
            due("a wrong 201st", read(0, join(filler, row('x', 'y', 10))), 2);
            due("a wrong 200th", read(0, join(filler, row('x', 10))), -200);
            due("an ESCAPE cut by it", read(0, join(filler, row(ESC, 103, 49))), -199);
            due("an ESCAPE cut behind its 27", read(0, join(filler, row('x', ESC, 103, 48))), -200);
            due("a mark whose letter is lost", read(0, join(many(66, ESC, 103, 48), row('x', 201, 'a'))), -200);
            int[] wide = many(66, utf(composed('a', 768)));
            due("two bytes at 199 and 200", read(1, join(wide, utf(913, 'z'))), 67);
            due("two bytes cut by it", read(1, join(wide, utf('x', 913))), -200);
            due("three bytes cut by it", read(1, join(wide, utf(composed('a', 768)))), -199);
            Rows x = new Rows();
            x.collect(many(300, 'a'));
            due("read of 300", x.read(1), -101);
            due("the lost ones do not come after", x.read(1), 0);
            due("and bytes are collected again", x.read(1, 'b'), 1);
        });
    }

    private static void promise3() {
        String at = "Promise 3: read";
        sentence(at, "What is collected is read as a kind, 0 or 1 (another one: 1)", () -> {
            due("kind 0", textOf(0, 201, 'a'), 'a', 768);
            for (int kind : row(1, 2, -1, 48, 256, LARGEST, LEAST)) {
                due("kind " + kind, textOf(kind, utf('a', 768)), 'a', 768);
                due("kind " + kind + ", bytes of kind 0", read(kind, 201, 'a'), -1);
            }
        });
        sentence(at, "nothing is collected any more", () -> {
            Rows x = new Rows();
            due("read(1)", x.read(1, 'a', 'b'), 2);
            due("read(1) again", x.read(1), 0);
            due("read(1) that is WRONG", x.read(1, 'a', 10), -2);
            due("read(1) after a WRONG one", x.read(1, 'c'), 1);
            due("read(0) that is WRONG", x.read(0, 'a', 10), -2);
            due("read(0) after a WRONG one", x.read(0, 'c'), 1);
            due("read(0) that is WRONG for marks", x.read(0, 201), -1);
            due("read(0) after marks", x.read(0, 'c'), 1);
        });
        sentence(at, "how many characters", () -> {
            for (int kind = 0; kind <= 1; kind++) {
                due("nothing", read(kind), 0);
                due("one", read(kind, 'a'), 1);
                due("100", read(kind, many(100, 'a')), 100);
            }
            due("marks are counted, kind 0", read(0, 201, 202, 'a'), 3);
            due("a COMPOSED one is one", read(1, utf(composed('a', 768))), 1);
        });
        sentence(at, "the TEXT is these, the one before the OTHER", () -> {
            Rows x = holding('a');
            due("read(1)", x.read(1, 'b'), 1);
            due("the TEXT", x.text(), 'b');
            due("the OTHER is not the TEXT", x.same(1), false);
            x.read(1, 'b');
            due("the OTHER is the one before", x.same(1), true);
            due("read of nothing", x.read(1), 0);
            due("the TEXT is empty", x.text());
            due("the OTHER is not", x.same(1), false);
            x.read(1);
            due("both are empty", x.same(1), true);
        });
        sentence(at, "-1 less the place if it is WRONG", () -> {
            for (int kind = 0; kind <= 1; kind++) {
                due("place 0", read(kind, 10), -1);
                due("place 1", read(kind, 'a', 10), -2);
                due("place 99", read(kind, join(many(99, 'a'), row(10))), -100);
                due("the first of two", read(kind, 'a', 10, 10), -2);
            }
            due("place 199, kind 0", read(0, join(many(66, ESC, 103, 49), row('a', 10))), -200);
            due("place 199, kind 1", read(1, join(many(66, utf(composed('a', 768))), row('a', 10))), -200);
        });
        sentence(at, "the TEXT stays", () -> {
            refused("read(0) of a wrong byte", x -> x.read(0, 'a', 10), -2);
            refused("read(0) of marks alone", x -> x.read(0, 201), -1);
            refused("read(0) of 101", x -> x.read(0, many(101, 'a')), -101);
            refused("read(1) of a wrong byte", x -> x.read(1, 'a', 10), -2);
            refused("read(1) of a mark first", x -> x.read(1, utf(768, 'a')), -1);
            refused("read(1) of 101", x -> x.read(1, many(101, 'a')), -101);
            Rows x = holding('a');
            x.read(1, 'a');
            x.read(1, 'b', 10);
            due("the OTHER stays too", x.same(1), true);
        });
    }

    private static void promise3Full() {
        String at = "Promise 3: read";
        sentence(at, "(A 101st character is WRONG, at its first byte", () -> {
            due("kind 1, one byte", read(1, many(101, 'a')), -101);
            due("kind 1, two bytes", read(1, join(many(100, 'a'), utf(913))), -101);
            due("kind 1, three bytes", read(1, join(many(100, 'a'), utf(composed('a', 768)))), -101);
            due("kind 1, a mark", read(1, join(many(100, 'a'), utf(768))), -101);
            due("kind 1, behind 50 of two bytes", read(1, join(many(50, utf(913)), many(51, 'a'))), -151);
            due("kind 1, 200 bytes", read(1, many(200, 'a')), -101);
            due("kind 0, plain", read(0, many(101, 'a')), -101);
            due("kind 0, of a set", read(0, many(101, 161)), -101);
            due("kind 0, behind an ESCAPE", read(0, join(many(100, 'a'), row(ESC, 103, 49, 161))), -104);
            due("kind 0, an ESCAPE alone is none", read(0, join(many(100, 'a'), row(ESC, 103, 49))), 100);
            due("kind 0, without marks behind one with marks", read(0, join(many(98, 'a'), row(201, 'b', 'c'))), -101);
        });
        sentence(at, "in kind 0, when the character that marks belong to is met, at the first of these.)", () -> {
            due("98, a mark and its letter", read(0, join(many(98, 'a'), row(201, 'b'))), 100);
            due("99, a mark and its letter", read(0, join(many(99, 'a'), row(201, 'b'))), -100);
            due("100, a mark and its letter", read(0, join(many(100, 'a'), row(201, 'b'))), -101);
            due("97, three marks and their letter", read(0, join(many(97, 'a'), row(201, 202, 203, 'b'))), -98);
            due("96, three marks and their letter", read(0, join(many(96, 'a'), row(201, 202, 203, 'b'))), 100);
            due("99 marks and their letter", read(0, join(many(99, 201), row('a'))), 100);
            due("100 marks and their letter", read(0, join(many(100, 201), row('a'))), -1);
            due("199 marks and their letter", read(0, join(many(199, 201), row('a'))), -1);
            due("an ESCAPE between them", read(0, join(many(99, 'a'), row(201, ESC, 103, 49, 161))), -100);
            due("an ESCAPE ahead of them", read(0, join(many(99, 'a'), row(ESC, 103, 48, 201, 'b'))), -103);
            due("the letter is never met, a wrong byte is", read(0, join(many(100, 'a'), row(201, 10))), -102);
            due("the letter is never met, the end is", read(0, join(many(100, 'a'), row(201, 202))), -101);
        });
    }

    private static void promise4() {
        String at = "Promise 4: character";
        sentence(at, "Character i of the TEXT, from 0 on", () -> {
            due("character(0)", holding('a', 'b').character(0), 'a');
            due("character(1)", holding('a', 'b').character(1), 'b');
            due("character(99)", holding(join(many(99, 'a'), row('b'))).character(99), 'b');
            due("a mark has a place of its own", holding('a', 768, 'b').character(1), 768);
        });
        sentence(at, "NONE if there is none such", () -> {
            Rows x = holding('a', 'b');
            due("character(2)", x.character(2), NONE);
            for (int i : NO_INDEX) {
                due("character(" + i + ")", x.character(i), NONE);
            }
            due("empty", new Rows().character(0), NONE);
            due("full", holding(many(100, 'a')).character(100), NONE);
            x.read(1, 'c');
            due("behind a shorter text", x.character(1), NONE);
            refused("character(9)", y -> y.character(9), NONE);
        });
    }

    private static void promise5() {
        String at = "Promise 5: write";
        sentence(at, "The TEXT is written as a kind (as above)", () -> {
            due("kind 0", holding('a', 768).written(0), 201, 'a');
            for (int kind : row(1, 2, -1, 48, 256, LARGEST, LEAST)) {
                due("kind " + kind, holding('a', 768).written(kind), 'a', 204, 128);
            }
        });
        sentence(at, "how many bytes", () -> {
            due("nothing, kind 0", new Rows().write(0), 0);
            due("nothing, kind 1", new Rows().write(1), 0);
            due("100 plain ones, kind 0", holding(many(100, 'a')).write(0), 100);
            due("100 plain ones, kind 1", holding(many(100, 'a')).write(1), 100);
            due("100 of two bytes, kind 1", holding(many(100, 913)).write(1), 200);
            due("66 of three bytes and two, kind 1", holding(join(many(66, composed('a', 768)), row(913))).write(1), 200);
            Rows longest = holding(many(50, 913, 1040));
            due("100 ESCAPES, kind 0", longest.write(0), 400);
            due("its last byte", longest.octet2(399), (byte) 161);
            due("its last ESCAPE", longest.octet2(396), ESC);
        });
        sentence(at, "an ESCAPE stands ahead of a byte of a set that is not on", () -> {
            due("set 0 is on first", holding(192).written(0), 161);
            due("set 1 first", holding(913).written(0), ESC, 103, 49, 161);
            due("set 2 first", holding(1040).written(0), ESC, 103, 50, 161);
            due("once for two of one set", holding(913, 914).written(0), ESC, 103, 49, 161, 162);
            due("a plain one leaves it on", holding(913, 'a', 914).written(0), ESC, 103, 49, 161, 'a', 162);
            due("a stand-in leaves it on", holding(913, composed('a', 768), 914).written(0), ESC, 103, 49, 161, 63, 162);
            due("back to set 0", holding(913, 192).written(0), ESC, 103, 49, 161, ESC, 103, 48, 161);
            due("ahead of marks", holding(913, 'a', 768).written(0), ESC, 103, 49, 161, ESC, 103, 48, 201, 'a');
            due("between mark and character", holding(913, 768).written(0), 201, ESC, 103, 49, 161);
            Rows x = holding(913);
            x.write(0);
            due("each write begins with set 0", x.written(0), ESC, 103, 49, 161);
        });
        sentence(at, "(where several sets have a code, the least)", () -> {
            TreeSet<String> seen = new TreeSet<>();
            for (int set = 0; set <= 2; set++) {
                Rows x = new Rows();
                for (int place = 0; place < 94; place++) {
                    String code = x.row(set, place);
                    boolean first = code.equals("0") || seen.add(code);
                    due("row(" + set + ", " + place + ") is in no lower set", first, true);
                    if (!code.equals("0")) {
                        due("byte of " + code, lastSetByte(Integer.parseInt(code)), 1000 * set + 161 + place);
                    }
                }
            }
        });
    }

    /** The byte of a set's code as it is written in kind 0, and 1000 for each set above 0. */
    private static int lastSetByte(int code) {
        int[] bytes = holding('e', code).written(0);
        int set = 0;
        int found = 0;
        for (int i = 0; i < bytes.length; i++) {
            set = bytes[i] == ESC ? bytes[i + 2] - 48 : set;
            found = bytes[i] >= 161 ? bytes[i] : found;
        }
        return 1000 * set + found;
    }

    private static void promise5StandIns() {
        String at = "Promise 5: write";
        sentence(at, "what can't be in kind 0, and is not a mark, is its STAND-IN, and is TOLD", () -> {
            Rows x = holding(composed('A', 768), 'b', composed('z', 782));
            due("stand-ins at both ends", x.written(0), 63, 'b', 63);
            due("their codes", x.told(0), composed('A', 768), composed('z', 782));
            due("their places", x.told(1), 0, 2);
            Rows y = holding(32, 126, 192, 221, 913, 969, 1040, 1103);
            y.write(0);
            due("none is told of what can be", y.told(0, 0), NONE);
            Rows z = holding(many(66, composed('a', 768)));
            due("66 of them", z.write(0), 66);
            due("the last of them", z.told(65, 1), 65);
            due("none behind it", z.told(66, 1), NONE);
        });
        sentence(at, "a mark, then, is left out, and is TOLD, if what it belongs to is a STAND-IN", () -> {
            Rows x = holding(composed('a', 768), 770, 780, 'b', 771);
            due("written", x.written(0), 63, 204, 'b');
            due("codes", x.told(0), composed('a', 768), 770, 780);
            due("places", x.told(1), 0, 1, 2);
            Rows y = holding(join(row(composed('a', 768)), many(98, 768)));
            due("one stand-in, 98 marks", y.written(0), 63);
            due("the last mark's place", y.told(98, 1), 98);
            due("none behind it", y.told(99, 0), NONE);
        });
        sentence(at, "or nothing", () -> {
            due("no mark can be first, kind 1", read(1, utf(768, 'a')), -1);
            due("no mark can be first, kind 0", textOf(0, 201, 'a'), 'a', 768);
            Rows x = holding(composed('a', 768), 769);
            x.compose(0);
            due("nor taken apart", x.character(0), 'a');
            x.compose(1);
            due("nor put together", x.character(0), composed('a', 768));
            Rows y = new Rows();
            y.write(0);
            due("nothing told of an empty text", y.told(0, 0), NONE);
        });
    }

    private static void promise6() {
        String at = "Promise 6: octet2";
        sentence(at, "Byte i of what was written latest", () -> {
            Rows x = holding('a', 913);
            x.write(1);
            due("octet2(0)", x.octet2(0), 'a');
            due("octet2(1), below 0", x.octet2(1), -50);
            due("octet2(2), the last", x.octet2(2), -111);
            x.write(0);
            due("octet2(4) of a later write", x.octet2(4), -95);
            x.read(1, 'b');
            due("a read leaves it", x.octet2(4), -95);
            x.compose(1);
            due("compose leaves it", x.octet2(4), -95);
            Rows y = holding(composed('a', 768));
            y.write(0);
            y.stand('#');
            due("stand leaves it", y.octet2(0), 63);
        });
        sentence(at, "0 if there is none such", () -> {
            due("before a write", holding('a').octet2(0), 0);
            Rows x = holding('a', 'b', 'c');
            x.write(1);
            due("octet2(3)", x.octet2(3), 0);
            for (int i : NO_INDEX) {
                due("octet2(" + i + ")", x.octet2(i), 0);
            }
            x.read(1, 'd');
            x.write(1);
            due("behind a shorter write", x.octet2(1), 0);
            x.read(1);
            x.write(1);
            due("an empty write", x.octet2(0), 0);
            Rows y = holding(many(50, 913, 1040));
            y.write(0);
            due("behind 400 bytes", y.octet2(400), 0);
            refused("octet2(99)", z -> z.octet2(99), 0);
        });
    }

    private static void promise7() {
        String at = "Promise 7: compose";
        sentence(at, "COMPOSED codes are letter and mark, then ORDER", () -> {
            Rows x = holding(composed('A', 778), 773, 768, composed('z', 770), 772);
            due("compose(0)", x.compose(0), 7);
            due("text", x.text(), 'A', 768, 773, 778, 'z', 770, 772);
            due("compose(0) again", x.compose(0), 7);
            due("empty", new Rows().compose(0), 0);
        });
        sentence(at, "then a LETTER and the mark behind it are the COMPOSED one", () -> {
            for (int letter : row('A', 'Z', 'a', 'z')) {
                Rows x = holding(letter, 782);
                due("compose(1)", x.compose(1), 1);
                due("text", x.text(), composed(letter, 782));
            }
            for (int beside : row('@', '[', '`', '{', ' ', '~', 192, 913, 1103)) {
                Rows x = holding(beside, 768);
                due("compose(1) of " + beside, x.compose(1), 2);
                due("text", x.text(), beside, 768);
            }
            Rows x = holding('a', 'b', 768, 'c');
            due("letters without marks", x.compose(1), 3);
            due("text", x.text(), 'a', composed('b', 768), 'c');
            Rows y = holding(composed('a', 778), 768);
            due("taken apart and in ORDER first", y.compose(1), 2);
            due("text", y.text(), composed('a', 768), 778);
            due("empty", new Rows().compose(1), 0);
        });
        sentence(at, "(further marks stay)", () -> {
            Rows x = holding('a', 768, 769, 778, 'b');
            due("compose(1)", x.compose(1), 4);
            due("text", x.text(), composed('a', 768), 769, 778, 'b');
            due("compose(1) again", x.compose(1), 4);
            due("text again", x.text(), composed('a', 768), 769, 778, 'b');
            Rows y = new Rows();
            y.read(0, join(many(99, 201), row('a')));
            due("99 marks", y.compose(1), 99);
            due("98 of them stay", y.mark(0), 99);
        });
    }

    private static void promise7Refusals() {
        String at = "Promise 7: compose";
        sentence(at, "NONE, and nothing happens, for another form", () -> {
            for (int form : row(2, -1, 48, 256, LARGEST, LEAST)) {
                refused("compose(" + form + ")", x -> x.compose(form), NONE);
            }
            Rows x = busy().collect('p', 'q');
            x.compose(2);
            due("what is collected stays", x.read(1, 'r'), 3);
        });
        sentence(at, "or if they would be more than 100", () -> {
            due("100", holding(many(50, composed('a', 768))).compose(0), 100);
            due("101", holding(join(many(50, composed('a', 768)), row('b'))).compose(0), NONE);
            due("102", holding(many(51, composed('a', 768))).compose(0), NONE);
            int[] most = join(many(66, composed('a', 778)), row(768));
            Rows x = holding(most);
            due("133", x.compose(0), NONE);
            due("nothing happens", x.text(), most);
            due("put together they are not more", x.compose(1), 67);
            due("and in ORDER", x.character(65), composed('a', 768));
            due("a full text", holding(many(100, 'a')).compose(0), 100);
            due("99 with a COMPOSED one", holding(join(many(98, 'a'), row(composed('b', 768)))).compose(0), 100);
            Rows y = holding(join(many(99, 'a'), row(composed('b', 768))));
            y.stand('#');
            y.write(0);
            due("100 with a COMPOSED one", y.compose(0), NONE);
            due("nothing happens", y.text(), join(many(99, 'a'), row(composed('b', 768))));
            due("what was written stays", y.octet2(99), '#');
            due("what was told stays", y.told(0, 1), 99);
            due("the OTHER stays", y.same(1), false);
            due("what is collected stays", y.collect('p').compose(0), NONE);
            due("what is collected stays", y.read(1, 'q'), 2);
        });
    }

    private static void promise8() {
        String at = "Promise 8: told";
        sentence(at, "Of the i-th character that was TOLD in the latest write, from 0 on, what 0: its code, 1: its place in the TEXT", () -> {
            Rows x = holding('a', composed('b', 768), 769, composed('c', 768));
            x.write(0);
            due("codes", row(x.told(0, 0), x.told(1, 0), x.told(2, 0)), composed('b', 768), 769, composed('c', 768));
            due("places", row(x.told(0, 1), x.told(1, 1), x.told(2, 1)), 1, 2, 3);
            x.read(1, 'z');
            x.compose(1);
            due("a read and compose leave it", x.told(2, 1), 3);
            x.read(1, utf('q', 'r', 's', composed('t', 770)));
            x.write(0);
            due("the latest write's code", x.told(0, 0), composed('t', 770));
            due("the latest write's place", x.told(0, 1), 3);
        });
        sentence(at, "NONE if there is none such", () -> {
            due("before a write", holding(composed('a', 768)).told(0, 0), NONE);
            Rows x = holding(composed('a', 768), composed('b', 768));
            x.write(0);
            due("told(2, 0)", x.told(2, 0), NONE);
            due("told(2, 1)", x.told(2, 1), NONE);
            for (int i : NO_INDEX) {
                due("told(" + i + ", 0)", x.told(i, 0), NONE);
                due("told(" + i + ", 1)", x.told(i, 1), NONE);
            }
            x.write(1);
            due("kind 1 tells none", x.told(0, 0), NONE);
            x.write(0);
            x.read(1, utf(composed('c', 768)));
            x.write(0);
            due("none of the write before", x.told(1, 0), NONE);
            refused("told(9, 0)", y -> y.told(9, 0), NONE);
        });
        sentence(at, "or for another what", () -> {
            Rows x = holding(composed('a', 768));
            x.write(0);
            for (int what : row(2, -1, 3, LARGEST, LEAST)) {
                due("told(0, " + what + ")", x.told(0, what), NONE);
            }
        });
    }

    private static void promise9() {
        String at = "Promise 9: stand";
        sentence(at, "The STAND-IN of codes that can't be written is a plain one, 32 .. 126: the one before", () -> {
            Rows x = holding(composed('a', 768));
            due("stand(32)", x.stand(32), 63);
            due("written", x.written(0), 32);
            due("stand(126)", x.stand(126), 32);
            due("written", x.written(0), 126);
            due("stand(126) again", x.stand(126), 126);
            x.read(1, 10);
            x.read(1, 'b');
            due("reads leave it", x.stand(63), 126);
        });
        sentence(at, "NONE, and it stays, for another code", () -> {
            for (int code : row(31, 127, 0, -1, 63 + 256, 192, 768, 913, LARGEST, LEAST)) {
                refused("stand(" + code + ")", x -> x.stand(code), NONE);
            }
            Rows x = busy().collect('p');
            x.stand(127);
            due("what is collected stays", x.read(1, 'q'), 2);
        });
    }

    private static void promise10() {
        String at = "Promise 10: nonfiling";
        sentence(at, "without its first so many characters that are no marks (and the marks behind each of these)", () -> {
            Rows x = holding('a', 768, 769, composed('b', 770), 771, 'c', 772);
            due("none left out", x.nonfiling(0, 0), 'a');
            due("one left out", x.nonfiling(1, 0), 'b');
            due("two left out", x.nonfiling(2, 0), 'c');
            due("all left out", x.nonfiling(3, 0), 0);
            due("the key's second", x.nonfiling(1, 1), 'c');
            due("100 of them, 99 left out", holding(join(many(99, 'a'), row('b'))).nonfiling(99, 0), 'b');
            due("100 of them, all left out", holding(many(100, 'a')).nonfiling(100, 0), 0);
        });
        sentence(at, "capitals (65 .. 90) as small ones", () -> {
            due("64", holding(64).nonfiling(0, 0), 64);
            due("65", holding(65).nonfiling(0, 0), 97);
            due("90", holding(90).nonfiling(0, 0), 122);
            due("91", holding(91).nonfiling(0, 0), 91);
            due("97", holding(97).nonfiling(0, 0), 97);
            due("122", holding(122).nonfiling(0, 0), 122);
            due("192", holding(192).nonfiling(0, 0), 192);
            due("913", holding(913).nonfiling(0, 0), 913);
        });
        sentence(at, "COMPOSED ones as their letter", () -> {
            due("'a' and 768", holding(composed('a', 768)).nonfiling(0, 0), 'a');
            due("'z' and 782", holding(composed('z', 782)).nonfiling(0, 0), 'z');
            due("a capital's is a small one", holding(composed('A', 768)).nonfiling(0, 0), 'a');
            due("the last capital's", holding(composed('Z', 782)).nonfiling(0, 0), 'z');
        });
        sentence(at, "0 past the end", () -> {
            Rows x = holding('a', 768, 'b', 769);
            due("nonfiling(0, 1)", x.nonfiling(0, 1), 'b');
            due("nonfiling(0, 2)", x.nonfiling(0, 2), 0);
            due("nonfiling(1, 1)", x.nonfiling(1, 1), 0);
            due("nonfiling(2, 0)", x.nonfiling(2, 0), 0);
            due("nonfiling(0, largest)", x.nonfiling(0, LARGEST), 0);
            due("nonfiling(1, largest)", x.nonfiling(1, LARGEST), 0);
            due("nonfiling(2, largest)", x.nonfiling(2, LARGEST), 0);
            due("an empty text", new Rows().nonfiling(0, 0), 0);
        });
    }

    private static void promise10Refusals() {
        String at = "Promise 10: nonfiling";
        sentence(at, "NONE if there are not so many to leave out", () -> {
            Rows x = holding('a', 768, 'b', 769);
            due("nonfiling(3, 0)", x.nonfiling(3, 0), NONE);
            due("marks do not count", x.nonfiling(4, 0), NONE);
            due("nonfiling(3, largest)", x.nonfiling(3, LARGEST), NONE);
            due("nonfiling(largest, 0)", x.nonfiling(LARGEST, 0), NONE);
            due("nonfiling(largest, largest)", x.nonfiling(LARGEST, LARGEST), NONE);
            due("nonfiling(largest, 1)", x.nonfiling(LARGEST, 1), NONE);
            due("an empty text", new Rows().nonfiling(1, 0), NONE);
            due("a full text", holding(many(100, 'a')).nonfiling(101, 0), NONE);
            refused("nonfiling(9, 0)", y -> y.nonfiling(9, 0), NONE);
        });
        sentence(at, "or a number is below 0", () -> {
            Rows x = holding('a', 'b');
            due("nonfiling(-1, 0)", x.nonfiling(-1, 0), NONE);
            due("nonfiling(0, -1)", x.nonfiling(0, -1), NONE);
            due("nonfiling(-1, 1)", x.nonfiling(-1, 1), NONE);
            due("nonfiling(1, -1)", x.nonfiling(1, -1), NONE);
            due("nonfiling(-1, -1)", x.nonfiling(-1, -1), NONE);
            due("nonfiling(least, 0)", x.nonfiling(LEAST, 0), NONE);
            due("nonfiling(0, least)", x.nonfiling(0, LEAST), NONE);
            due("nonfiling(least, least)", x.nonfiling(LEAST, LEAST), NONE);
            due("nonfiling(2, -1), all left out", x.nonfiling(2, -1), NONE);
            due("an empty text", new Rows().nonfiling(0, -1), NONE);
        });
    }

    private static void promise11() {
        String at = "Promise 11: mark";
        sentence(at, "How many marks stand behind the i-th character that is no mark, from 0 on", () -> {
            Rows x = holding('a', 'b', 768, 913, 769, 778);
            due("mark(0), none", x.mark(0), 0);
            due("mark(1)", x.mark(1), 1);
            due("mark(2), to the end", x.mark(2), 2);
            Rows y = new Rows();
            y.read(0, join(many(99, 201), row('a')));
            due("99 marks", y.mark(0), 99);
            due("the 100th", holding(many(100, 'a')).mark(99), 0);
        });
        sentence(at, "(a COMPOSED one has one more)", () -> {
            Rows x = holding(composed('A', 768), composed('z', 782), 768, 770);
            due("alone", x.mark(0), 1);
            due("with two behind it", x.mark(1), 3);
        });
        sentence(at, "NONE if there is none such", () -> {
            Rows x = holding('a', 768, 'b', 769);
            due("mark(2)", x.mark(2), NONE);
            for (int i : NO_INDEX) {
                due("mark(" + i + ")", x.mark(i), NONE);
            }
            due("an empty text", new Rows().mark(0), NONE);
            due("a full text", holding(many(100, 'a')).mark(100), NONE);
            refused("mark(9)", y -> y.mark(9), NONE);
        });
    }

    private static void promise12() {
        String at = "Promise 12: row";
        String thrown = "throws.ArrayIndexOutOfBoundsException";
        sentence(at, "Place i of a set's row", () -> {
            due("row(0, 0)", new Rows().row(0, 0), "192");
            due("row(1, 0)", new Rows().row(1, 0), "913");
            due("row(2, 0)", new Rows().row(2, 0), "1040");
            for (int set = 0; set <= 2; set++) {
                due("row(" + set + ", 93)", new Rows().row(set, 93), "0");
            }
        });
        sentence(at, "NONE for another set", () -> {
            for (int set : row(3, -1, 48, 256, LARGEST, LEAST)) {
                for (int i : row(0, 93, 94, -1, LARGEST, LEAST)) {
                    due("row(" + set + ", " + i + ")", new Rows().row(set, i), "-1");
                }
            }
            refused("row(3, 0)", x -> x.row(3, 0), "-1");
        });
        sentence(at, "ArrayIndexOutOfBoundsException if the set is there, and i is not 0 .. 93", () -> {
            for (int set = 0; set <= 2; set++) {
                for (int i : row(94, -1, 256, LARGEST, LEAST)) {
                    due("row(" + set + ", " + i + ")", new Rows().row(set, i), thrown);
                }
            }
            refused("row(0, 94)", x -> x.row(0, 94), thrown);
            Rows x = busy().collect('p');
            x.row(2, -1);
            due("what is collected stays", x.read(1, 'q'), 2);
        });
    }

    private static boolean sameAfter(int[] first, int... second) {
        Rows x = holding(first);
        due("read of the second", x.read(1, utf(second)), second.length);
        return x.same(1);
    }

    private static void promise13() {
        String at = "Promise 13: same";
        sentence(at, "Whether the TEXT (0) or the OTHER (1), taken apart, is the same as the TEXT, taken apart", () -> {
            due("same(0) of a new object", new Rows().same(0), true);
            due("same(1) of a new object", new Rows().same(1), true);
            due("same(0)", busy().same(0), true);
            due("same(1)", busy().same(1), false);
            due("the OTHER empty", holding('a').same(1), false);
            due("the TEXT empty", sameAfter(row('a')), false);
            due("COMPOSED and apart", sameAfter(row(composed('a', 768)), 'a', 768), true);
            due("apart and COMPOSED", sameAfter(row('a', 768), composed('a', 768)), true);
            due("in ORDER", sameAfter(row(composed('a', 778), 768), composed('a', 768), 778), true);
            due("one rank turned about", sameAfter(row('a', 768, 769), 'a', 769, 768), false);
            due("one more", sameAfter(row('a'), 'a', 'b'), false);
            due("one less", sameAfter(row('a', 'b'), 'a'), false);
            due("a capital", sameAfter(row('a'), 'A'), false);
            due("the last of 100", sameAfter(many(100, 'a'), join(many(99, 'a'), row('b'))), false);
            due("100", sameAfter(many(100, 'a'), many(100, 'a')), true);
            int[] most = many(65, composed('a', 768));
            due("more than 100, apart", sameAfter(join(most, row('x')), join(most, row('x'))), true);
            due("more than 100, apart, the last", sameAfter(join(most, row('x')), join(most, row('y'))), false);
            Rows x = holding(composed('a', 768));
            x.read(1, utf('a', 768));
            String before = x.look();
            x.same(1);
            due("what can be seen after it", x.look(), before);
        });
        sentence(at, "false for another number", () -> {
            for (int other : row(2, -1, 48, 256, LARGEST, LEAST)) {
                due("same(" + other + ") of a new object", new Rows().same(other), false);
                refused("same(" + other + ")", x -> x.same(other), false);
            }
        });
    }

    private static void readDocument() throws Exception {
        String path = System.getProperty("document", "");
        if (!path.isEmpty() && Files.isRegularFile(Path.of(path))) {
            document = Files.readString(Path.of(path));
        } else {
            System.out.println("the document is not there: the tests' names are not looked up in it");
        }
    }

    public static void main(String[] args) throws Exception {
        readDocument();
        whatItIs();
        termsCharacters();
        termsMarks();
        termsOldKind();
        termsOldKindWrong();
        termsNewKind();
        termsNewKindWrongCodes();
        termsText();
        promise1();
        promise2();
        promise3();
        promise3Full();
        promise4();
        promise5();
        promise5StandIns();
        promise6();
        promise7();
        promise7Refusals();
        promise8();
        promise9();
        promise10();
        promise10Refusals();
        promise11();
        promise12();
        promise13();
        System.out.println(tests + " sentences, " + checks + " answers, " + wrong + " not as due");
        if (wrong != 0) {
            System.exit(1);
        }
    }
}
