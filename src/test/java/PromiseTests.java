import java.util.Arrays;

/** For each promise of DOC.md its ordinary inputs, the edges that it names, and wrong inputs. */
public final class PromiseTests {
    private static final int ESC = 27;
    private static final int NONE = CharacterRows.NONE;
    private static int wrong = 0;

    private static void due(String call, long got, long want) {
        if (got != want) {
            wrong++;
            System.out.println(call + " answered " + got + ", due is " + want);
        }
    }

    private static void due(String call, int[] got, int... want) {
        if (!Arrays.equals(got, want)) {
            wrong++;
            System.out.println(call + " left " + Arrays.toString(got) + ", due is " + Arrays.toString(want));
        }
    }

    private static void due(String call, boolean got, boolean want) {
        due(call, got ? 1 : 0, want ? 1 : 0);
    }

    private static int read(CharacterRows x, int kind, int... bytes) {
        for (int b : bytes) {
            x.octet((byte) b);
        }
        return x.read(kind);
    }

    private static int readAnew(int kind, int... bytes) {
        return read(new CharacterRows(), kind, bytes);
    }

    /** The bytes of kind 1, also of codes (surrogates) that the library's own UTF-8 does not write. */
    private static int[] utf(int... codes) {
        int[] row = new int[0];
        for (int c : codes) {
            int[] bytes = c < 128 ? new int[] {c}
                : c < 2048 ? new int[] {192 | c >> 6, 128 | c & 63}
                : new int[] {224 | c >> 12, 128 | c >> 6 & 63, 128 | c & 63};
            row = join(row, bytes);
        }
        return row;
    }

    private static CharacterRows holding(int... codes) {
        CharacterRows x = new CharacterRows();
        due("read(1) of " + Arrays.toString(codes), read(x, 1, utf(codes)), codes.length);
        return x;
    }

    private static int[] text(CharacterRows x) {
        int[] row = new int[300];
        int n = 0;
        while (n < row.length && x.character(n) != NONE) {
            row[n] = x.character(n);
            n++;
        }
        return Arrays.copyOf(row, n);
    }

    private static int[] written(CharacterRows x, int kind) {
        int[] row = new int[x.write(kind)];
        for (int i = 0; i < row.length; i++) {
            row[i] = x.octet2(i) & 255;
        }
        return row;
    }

    private static int composed(int letter, int mark) {
        return 57344 + 64 * (mark - 768) + letter - 64;
    }

    private static int[] many(int count, int... part) {
        int[] row = new int[count * part.length];
        for (int i = 0; i < row.length; i++) {
            row[i] = part[i % part.length];
        }
        return row;
    }

    private static int[] join(int[]... parts) {
        int[] row = new int[0];
        for (int[] part : parts) {
            int at = row.length;
            row = Arrays.copyOf(row, at + part.length);
            System.arraycopy(part, 0, row, at, part.length);
        }
        return row;
    }

    private static void promise1() {
        CharacterRows x = new CharacterRows();
        due("NONE", NONE, -1);
        due("1: text", text(x));
        due("1: same(1)", x.same(1), true);
        due("1: octet2(0)", x.octet2(0), 0);
        due("1: told(0, 0)", x.told(0, 0), NONE);
        due("1: nonfiling(0, 0)", x.nonfiling(0, 0), 0);
        due("1: mark(0)", x.mark(0), NONE);
        due("1: write(0)", x.write(0), 0);
        due("1: write(1)", x.write(1), 0);
        due("1: compose(0)", x.compose(0), 0);
        due("1: compose(1)", x.compose(1), 0);
        due("1: read(0)", x.read(0), 0);
        due("1: read(1)", x.read(1), 0);
        due("1: stand(64)", x.stand(64), 63);
        due("1: two objects", new CharacterRows().stand(64), 63);
    }

    private static void promise2() {
        CharacterRows x = new CharacterRows();
        due("2: 200 bytes, then lost ones", read(x, 1, join(many(66, utf(composed('a', 768))), utf('b', 'c', 'd'))), 68);
        due("2: the last one kept", x.character(67), 'c');
        due("2: after a read as many again", read(x, 1, many(100, 'a')), 100);
        int[] escapes = many(66, ESC, 103, 49);
        due("2: a lost byte is not wrong", readAnew(0, join(escapes, new int[] {'a', 'b', 10})), 2);
        due("2: an end at 200", readAnew(0, join(escapes, new int[] {'a', ESC, 103, 49})), -200);
    }

    private static void promise3OldKind() {
        CharacterRows x = new CharacterRows();
        due("3: plain ends", read(x, 0, 32, 126), 2);
        due("3: plain ends", text(x), 32, 126);
        due("3: below plain", read(x, 0, 'a', 31), -2);
        due("3: above plain", read(x, 0, 127), -1);
        due("3: 0", read(x, 0, 0), -1);
        due("3: 128", read(x, 0, 'a', 'b', 128), -3);
        due("3: 160", read(x, 0, 160), -1);
        due("3: 255", read(x, 0, 255), -1);
        due("3: text stays", text(x), 32, 126);
        due("3: set 0", read(x, 0, 161, 190), 2);
        due("3: set 0", text(x), 192, 221);
        due("3: set 0 place 30", read(x, 0, 191), -1);
        due("3: set 0 place 39", read(x, 0, 200), -1);
        due("3: set 0 place 55", read(x, 0, 216), -1);
        due("3: set 0 place 93", read(x, 0, 254), -1);
        due("3: set 0 marks", read(x, 0, 201, 215, 'a'), 3);
        due("3: set 0 marks", text(x), 'a', 768, 782);
        due("3: set 1", read(x, 0, ESC, 103, 49, 161, 217), 2);
        due("3: set 1", text(x), 913, 969);
        due("3: set 1 place 57", read(x, 0, ESC, 103, 49, 218), -4);
        due("3: set 2", read(x, 0, ESC, 103, 50, 161, 224), 2);
        due("3: set 2", text(x), 1040, 1103);
        due("3: set 2 place 64", read(x, 0, ESC, 103, 50, 225), -4);
        due("3: back to set 0", read(x, 0, ESC, 103, 50, ESC, 103, 48, 161), 1);
        due("3: back to set 0", text(x), 192);
        due("3: set 0 at each beginning", read(x, 0, ESC, 103, 49), 0);
        due("3: set 0 at each beginning", read(x, 0, 161), 1);
        due("3: set 0 at each beginning", text(x), 192);
        due("3: plain in set 1", read(x, 0, ESC, 103, 49, 'a', 161), 2);
        due("3: plain in set 1", text(x), 'a', 913);
    }

    private static void promise3EscapesAndMarks() {
        CharacterRows x = new CharacterRows();
        due("3: escape ends at 27", read(x, 0, 'a', ESC), -2);
        due("3: escape ends at 103", read(x, 0, 'a', ESC, 103), -2);
        due("3: escape 104", read(x, 0, ESC, 104, 49), -1);
        due("3: escape 47", read(x, 0, ESC, 103, 47), -1);
        due("3: escape 51", read(x, 0, ESC, 103, 51), -1);
        due("3: escape in escape", read(x, 0, ESC, ESC, 103, 49), -1);
        due("3: marks, then the end", read(x, 0, 'a', 201, 202), -2);
        due("3: marks, an escape, the end", read(x, 0, 'a', 201, 202, ESC, 103, 49), -2);
        due("3: marks, then a wrong byte", read(x, 0, 201, 10), -2);
        due("3: marks, then a wrong escape", read(x, 0, 201, ESC, 103), -2);
        due("3: marks, an escape, a letter", read(x, 0, 206, ESC, 103, 49, 161, ESC, 103, 48, 201, 'b'), 4);
        due("3: marks, an escape, a letter", text(x), 913, 773, 'b', 768);
        due("3: marks either side of an escape", read(x, 0, 206, ESC, 103, 49, ESC, 103, 48, 207, 'b'), 3);
        due("3: marks either side of an escape", text(x), 'b', 773, 774);
        due("3: order", read(x, 0, 215, 206, 202, 201, 207, 'a', 206, 201, 'b'), 9);
        due("3: order", text(x), 'a', 769, 768, 773, 774, 782, 'b', 768, 773);
    }

    private static void promise3NewKind() {
        CharacterRows x = new CharacterRows();
        due("3: all kinds", read(x, 1, utf(32, 126, 192, 221, 768, 782, 913, 969, 1040, 1103, 57345, 58298)), 12);
        due("3: all kinds", text(x), 32, 126, 192, 221, 768, 782, 913, 969, 1040, 1103, 57345, 58298);
        int[] notThere = {0, 10, 27, 31, 127, 128, 191, 222, 255, 783, 912, 970, 1039, 1104, 2048, 57343, 57344,
            57371, 57376, 57403, 57408, 58299, 58304, 65533, 65535};
        for (int code : notThere) {
            due("3: code " + code, read(x, 1, join(new int[] {'a'}, utf(code), new int[] {'b'})), -2);
        }
        due("3: 767", read(x, 1, join(utf('a', 767))), -2);
        due("3: begins none, 128", read(x, 1, 'a', 128), -2);
        due("3: begins none, 191", read(x, 1, 191, 128), -1);
        due("3: begins none, 240", read(x, 1, 240, 144, 128, 128), -1);
        due("3: begins none, 255", read(x, 1, 255), -1);
        due("3: two bytes end", read(x, 1, 'a', 195), -2);
        due("3: two bytes, 127", read(x, 1, 195, 127), -1);
        due("3: two bytes, 192", read(x, 1, 195, 192), -1);
        due("3: three bytes end", read(x, 1, 'a', 238, 128), -2);
        due("3: two bytes, 127, else 959", read(x, 1, 207, 127), -1);
        due("3: two bytes, 192, else 960", read(x, 1, 206, 192), -1);
        due("3: two bytes, a plain one, else 929", read(x, 1, 207, 'a'), -1);
        due("3: three bytes, third too high, else 57409", read(x, 1, 238, 128, 193), -1);
        due("3: three bytes, third too low, else 57402", read(x, 1, 238, 129, 122), -1);
        due("3: three bytes, second too high, else 57345", read(x, 1, 237, 192, 129), -1);
        due("3: three bytes, second too low, else 57345", read(x, 1, 239, 64, 129), -1);
        due("3: three bytes, 127", read(x, 1, 238, 128, 127), -1);
        due("3: three bytes, 192", read(x, 1, 238, 192, 129), -1);
        due("3: too long, two", read(x, 1, 193, 161), -1);
        due("3: too long, three", read(x, 1, 'a', 224, 131, 128), -2);
        due("3: too long, three for one", read(x, 1, 224, 129, 161), -1);
        due("3: mark at the beginning", read(x, 1, utf(768, 'a')), -1);
        due("3: text stays", text(x).length, 12);
        due("3: order", read(x, 1, utf('a', 778, 769, 768, 773, 'b', 773, 768)), 8);
        due("3: order", text(x), 'a', 769, 768, 773, 778, 'b', 768, 773);
        due("3: order behind a composed one", read(x, 1, utf(composed('a', 780), 773, 768)), 3);
        due("3: order behind a composed one", text(x), composed('a', 780), 768, 773);
    }

    private static void promise3Ranks() {
        for (int first = 768; first <= 782; first++) {
            for (int second = 768; second <= 782; second++) {
                boolean turned = (first - 768) / 5 > (second - 768) / 5;
                CharacterRows x = holding('a', first, second);
                due("3: ranks", text(x), 'a', turned ? second : first, turned ? first : second);
            }
        }
    }

    private static boolean isCharacter(int code) {
        boolean letter = code >= 57344 && code < 57344 + 64 * 15 && Character.isLetter(64 + code % 64);
        boolean inSet = code >= 192 && code <= 221 || code >= 768 && code <= 782
            || code >= 913 && code <= 969 || code >= 1040 && code <= 1103;
        return code >= 32 && code <= 126 || inSet || letter;
    }

    /** Behind an 'e' each code of kind 1 there is, and each that is one comes out of both kinds as it went in. */
    private static void everyCode() {
        for (int code = 0; code < 65536; code++) {
            CharacterRows x = new CharacterRows();
            boolean right = isCharacter(code);
            due("3: code " + code, read(x, 1, utf('e', code)), right ? 2 : -2);
            if (right) {
                due("5: code " + code, written(x, 1), utf('e', code));
            }
            if (right && code < 57344) {
                due("3: code " + code + " of kind 0", read(x, 0, written(x, 0)), 2);
                due("3: code " + code + " of kind 0", text(x), 'e', code);
            }
        }
    }

    private static void promise3LimitsAndRest() {
        CharacterRows x = new CharacterRows();
        due("3: 100", readAnew(1, many(100, 'a')), 100);
        due("3: 101, kind 1", readAnew(1, join(many(100, 'a'), utf(913))), -101);
        due("3: 101, kind 1, behind longer ones", readAnew(1, join(many(50, utf(913)), many(50, 'a'), utf(768, 'a'))), -151);
        due("3: 101, kind 0", readAnew(0, many(101, 'a')), -101);
        due("3: 101, kind 0, behind an escape", readAnew(0, join(many(100, 'a'), new int[] {ESC, 103, 49, 161})), -104);
        due("3: escape behind the 100th", readAnew(0, join(many(100, 'a'), new int[] {ESC, 103, 49})), 100);
        due("3: 98 and three", readAnew(0, join(many(98, 'a'), new int[] {201, 202, 'b', 'c'})), -99);
        due("3: 98 and two", readAnew(0, join(many(98, 'a'), new int[] {201, 'b'})), 100);
        due("3: 99 and two", readAnew(0, join(many(99, 'a'), new int[] {201, ESC, 103, 49, 161})), -100);
        due("3: 99 marks", readAnew(0, join(many(99, 201), new int[] {'a'})), 100);
        due("3: 100 marks", readAnew(0, join(many(100, 201), new int[] {'a'})), -1);
        due("3: 199 marks", readAnew(0, join(many(199, 201), new int[] {'a'})), -1);
        due("3: 150 marks and a wrong byte", readAnew(0, join(many(150, 201), new int[] {10})), -151);
        due("3: 100, marks, a wrong byte", readAnew(0, join(many(100, 'a'), new int[] {201, 10})), -102);
        due("3: 200 marks", readAnew(0, many(200, 201)), -1);
        due("3: kind 2 is kind 1", readAnew(2, utf('a', 913)), 2);
        due("3: kind -1 is kind 1", readAnew(-1, utf('a', 913)), 2);
        due("3: wrong, and nothing is collected any more", read(x, 0, 10), -1);
        due("3: wrong, and nothing is collected any more", read(x, 0, 'b'), 1);
        due("3: the other", x.same(1), false);
        read(x, 0, 'b');
        due("3: the other", x.same(1), true);
        due("3: wrong, and the other stays", read(x, 0, 'c', 10), -2);
        due("3: wrong, and the other stays", x.same(1), true);
        due("3: nothing collected", x.read(0), 0);
        due("3: nothing collected", text(x));
        due("3: nothing collected", x.same(1), false);
    }

    private static void promise4() {
        CharacterRows x = holding('a', 913);
        due("4: 0", x.character(0), 'a');
        due("4: 1", x.character(1), 913);
        due("4: 2", x.character(2), NONE);
        due("4: -1", x.character(-1), NONE);
        due("4: largest", x.character(Integer.MAX_VALUE), NONE);
        due("4: least", x.character(Integer.MIN_VALUE), NONE);
        read(x, 1, many(100, 'z'));
        due("4: 99", x.character(99), 'z');
        due("4: 100", x.character(100), NONE);
        read(x, 1, 'q');
        due("4: what was there before", x.character(1), NONE);
    }

    private static void promise5() {
        CharacterRows x = holding(913, 768, 'a', 914, 1040, 192, 193, 'b', 770, 769);
        due("5: kind 0", written(x, 0), 201, ESC, 103, 49, 161, 'a', 162, ESC, 103, 50, 161,
            ESC, 103, 48, 161, 162, 203, 202, 'b');
        due("5: kind 0 tells none", x.told(0, 0), NONE);
        due("5: kind 0 anew begins with set 0", x.write(0), 19);
        due("5: kind 1", written(x, 1), utf(913, 768, 'a', 914, 1040, 192, 193, 'b', 770, 769));
        due("5: kind 2 is kind 1", x.write(2), 18);
        due("5: kind -1 is kind 1", x.write(-1), 18);
        due("5: text stays", text(x).length, 10);
        x = holding(32, 126, 192, 221, 768, 782, 913, 969, 1040, 1103, 57345, 58298);
        due("5: kind 1, ends", written(x, 1), utf(32, 126, 192, 221, 768, 782, 913, 969, 1040, 1103, 57345, 58298));
        due("5: kind 0, ends", written(x, 0), 32, 126, 161, 201, 215, 190, ESC, 103, 49, 161, 217,
            ESC, 103, 50, 161, 224, 63, 63);
        int composed = composed('e', 769);
        x = holding(914, composed, 770, 780, 915, 771, composed);
        due("5: stand-ins", written(x, 0), ESC, 103, 49, 162, 63, ESC, 103, 48, 204, ESC, 103, 49, 163, 63);
        due("5: told", new int[] {x.told(0, 0), x.told(1, 0), x.told(2, 0), x.told(3, 0), x.told(4, 0)},
            composed, 770, 780, composed, NONE);
        due("5: a stand-in leaves the set on", written(holding(914, composed, 915), 0), ESC, 103, 49, 162, 63, 163);
        due("5: the longest", holding(many(50, 913, 1040)).write(0), 400);
        x = holding(many(50, 913, 768));
        due("5: the longest, with marks", x.write(0), 397);
        due("5: the longest, its last byte", x.octet2(396) & 255, 161);
    }

    private static void promise6() {
        CharacterRows x = holding('a', 913);
        due("6: nothing written yet", x.octet2(0), 0);
        x.write(1);
        due("6: 0", x.octet2(0), 'a');
        due("6: below 0 as a byte", x.octet2(1), (byte) 0xCE);
        due("6: 2", x.octet2(2), (byte) 0x91);
        due("6: 3", x.octet2(3), 0);
        due("6: -1", x.octet2(-1), 0);
        due("6: largest", x.octet2(Integer.MAX_VALUE), 0);
        due("6: least", x.octet2(Integer.MIN_VALUE), 0);
        read(x, 1, 'z');
        due("6: a read leaves it", x.octet2(0), 'a');
        x.write(0);
        due("6: the latest", x.octet2(0), 'z');
        due("6: no byte of the one before", x.octet2(1), 0);
        x.read(0);
        x.write(0);
        due("6: an empty one", x.octet2(0), 0);
    }

    private static void promise7() {
        CharacterRows x = holding('a', 769, 768, 778, 'b', 913, 768, 'Z', 782);
        due("7: form 1", x.compose(1), 7);
        due("7: form 1", text(x), composed('a', 769), 768, 778, 'b', 913, 768, composed('Z', 782));
        due("7: form 1 again", x.compose(1), 7);
        due("7: form 0", x.compose(0), 9);
        due("7: form 0", text(x), 'a', 769, 768, 778, 'b', 913, 768, 'Z', 782);
        due("7: form 2", x.compose(2), NONE);
        due("7: form -1", x.compose(-1), NONE);
        due("7: nothing happens", text(x).length, 9);
        x = holding(composed('A', 780), 768, 774, composed('z', 770), 770);
        due("7: apart, then order", x.compose(0), 7);
        due("7: apart, then order", text(x), 'A', 768, 774, 780, 'z', 770, 770);
        x = holding(composed('A', 780), 768, 774);
        due("7: another mark inside", x.compose(1), 3);
        due("7: another mark inside", text(x), composed('A', 768), 774, 780);
        x = holding('@', 768, '[', 768, '`', 768, '{', 768, 'A', 768, 'Z', 768, 'a', 768, 'z', 768);
        due("7: letters alone", x.compose(1), 12);
        due("7: letters alone", text(x), '@', 768, '[', 768, '`', 768, '{', 768,
            composed('A', 768), composed('Z', 768), composed('a', 768), composed('z', 768));
        x = holding(many(51, composed('a', 768)));
        due("7: 102, apart", x.compose(0), NONE);
        due("7: 102, apart", text(x), many(51, composed('a', 768)));
        due("7: 51, together", x.compose(1), 51);
        x = holding(many(50, composed('a', 768)));
        due("7: 100, apart", x.compose(0), 100);
        due("7: 100, together", x.compose(1), 50);
        x = holding('a', 768);
        read(x, 1, 'b');
        x.compose(1);
        read(x, 1, 'b');
        due("7: the other is the one before, not the form before", x.same(1), true);
        x = holding(composed('a', 780), 768);
        x.write(1);
        x.compose(0);
        due("7: what was written stays", x.octet2(0) & 255, 238);
    }

    private static void promise8() {
        int composed = composed('e', 769);
        CharacterRows x = holding('a', composed, 770, 'b', 771, composed);
        due("8: before a write", x.told(0, 0), NONE);
        x.write(0);
        due("8: codes", new int[] {x.told(0, 0), x.told(1, 0), x.told(2, 0)}, composed, 770, composed);
        due("8: places", new int[] {x.told(0, 1), x.told(1, 1), x.told(2, 1)}, 1, 2, 5);
        due("8: 3", x.told(3, 0), NONE);
        due("8: 3", x.told(3, 1), NONE);
        due("8: -1", x.told(-1, 0), NONE);
        due("8: what 2", x.told(0, 2), NONE);
        due("8: what -1", x.told(0, -1), NONE);
        due("8: largest", x.told(Integer.MAX_VALUE, 1), NONE);
        read(x, 1, 'z');
        due("8: a read leaves it", x.told(2, 0), composed);
        due("8: a read leaves it", x.told(2, 1), 5);
        x.write(0);
        due("8: the latest write", x.told(0, 0), NONE);
        read(x, 1, utf('q', 'r', composed));
        x.write(0);
        due("8: the place in the latest write", x.told(0, 1), 2);
        due("8: none of the write before", x.told(1, 1), NONE);
        x = holding(composed);
        x.write(0);
        x.write(1);
        due("8: kind 1 tells none", x.told(0, 0), NONE);
    }

    private static void promise9() {
        CharacterRows x = holding(composed('a', 768), composed('A', 782));
        due("9: 32", x.stand(32), 63);
        due("9: 126", x.stand(126), 32);
        due("9: 31", x.stand(31), NONE);
        due("9: 127", x.stand(127), NONE);
        due("9: -1", x.stand(-1), NONE);
        due("9: 913", x.stand(913), NONE);
        due("9: least", x.stand(Integer.MIN_VALUE), NONE);
        due("9: it stays", written(x, 0), 126, 126);
        due("9: the one before", x.stand('a'), 126);
        due("9: the new one", written(x, 0), 'a', 'a');
        read(x, 1, 'b');
        due("9: a read leaves it", x.stand('b'), 'a');
    }

    private static void promise10() {
        CharacterRows x = holding('T', 'h', 'E', 768, ' ', 'A', 'Z', 768, 769, '@', '[', composed('A', 768), composed('z', 782), 192, 1040);
        int[] key = {'t', 'h', 'e', ' ', 'a', 'z', '@', '[', 'a', 'z', 192, 1040};
        for (int count = 0; count <= key.length; count++) {
            for (int of = 0; of < key.length + 3; of++) {
                int want = count + of < key.length ? key[count + of] : 0;
                due("10: nonfiling(" + count + ", " + of + ")", x.nonfiling(count, of), want);
            }
        }
        due("10: not so many", x.nonfiling(13, 0), NONE);
        due("10: not so many, past the end", x.nonfiling(13, 50), NONE);
        due("10: count below 0", x.nonfiling(-1, 0), NONE);
        due("10: of below 0", x.nonfiling(0, -1), NONE);
        due("10: count and of meet at a place", x.nonfiling(-1, 1), NONE);
        due("10: largest of", x.nonfiling(1, Integer.MAX_VALUE), 0);
        due("10: largest both", x.nonfiling(Integer.MAX_VALUE, Integer.MAX_VALUE), NONE);
        due("10: least", x.nonfiling(Integer.MIN_VALUE, Integer.MIN_VALUE), NONE);
        due("10: empty", new CharacterRows().nonfiling(1, 0), NONE);
    }

    private static void promise11() {
        CharacterRows x = holding('a', 768, 769, 'b', composed('c', 768), composed('d', 768), 770, 771, 913, 770);
        due("11: all", new int[] {x.mark(0), x.mark(1), x.mark(2), x.mark(3), x.mark(4)}, 2, 0, 1, 3, 1);
        due("11: 5", x.mark(5), NONE);
        due("11: -1", x.mark(-1), NONE);
        due("11: largest", x.mark(Integer.MAX_VALUE), NONE);
        due("11: least", x.mark(Integer.MIN_VALUE), NONE);
        x.compose(0);
        due("11: apart", new int[] {x.mark(0), x.mark(1), x.mark(2), x.mark(3), x.mark(4)}, 2, 0, 1, 3, 1);
    }

    private static boolean rowThrows(int set, int i) {
        try {
            new CharacterRows().row(set, i);
            return false;
        } catch (ArrayIndexOutOfBoundsException e) {
            return true;
        }
    }

    private static void promise12() {
        CharacterRows x = new CharacterRows();
        for (int i = 0; i < 94; i++) {
            int latin = i < 30 ? 192 + i : i >= 40 && i < 55 ? 728 + i : 0;
            due("12: row(0, " + i + ")", x.row(0, i), latin);
            due("12: row(1, " + i + ")", x.row(1, i), i < 57 ? 913 + i : 0);
            due("12: row(2, " + i + ")", x.row(2, i), i < 64 ? 1040 + i : 0);
        }
        for (int set = 0; set < 3; set++) {
            due("12: -1 throws", rowThrows(set, -1), true);
            due("12: 94 throws", rowThrows(set, 94), true);
            due("12: largest throws", rowThrows(set, Integer.MAX_VALUE), true);
            due("12: least throws", rowThrows(set, Integer.MIN_VALUE), true);
        }
        due("12: set 3", x.row(3, 0), NONE);
        due("12: set -1", x.row(-1, 0), NONE);
        due("12: set 3, no place", x.row(3, 94), NONE);
        due("12: set -1, no place", x.row(-1, -1), NONE);
        due("12: largest set", x.row(Integer.MAX_VALUE, Integer.MIN_VALUE), NONE);
    }

    private static boolean sameAfter(int[] first, int[] second) {
        CharacterRows x = holding(first);
        read(x, 1, utf(second));
        return x.same(1);
    }

    private static void promise13() {
        CharacterRows x = holding('a', 768);
        due("13: 0", x.same(0), true);
        due("13: 1", x.same(1), false);
        due("13: 2", x.same(2), false);
        due("13: -1", x.same(-1), false);
        read(x, 1, utf(composed('a', 768)));
        due("13: apart", x.same(1), true);
        due("13: text stays", text(x), composed('a', 768));
        due("13: 0", x.same(0), true);
        due("13: 2", x.same(2), false);
        due("13: order", sameAfter(new int[] {composed('a', 780), 768}, new int[] {'a', 768, 780}), true);
        due("13: another inside", sameAfter(new int[] {composed('a', 780), 768}, new int[] {composed('a', 768), 780}), true);
        due("13: one rank", sameAfter(new int[] {'a', 768, 769}, new int[] {'a', 769, 768}), false);
        due("13: shorter", sameAfter(new int[] {'a', 'b'}, new int[] {'a'}), false);
        due("13: longer", sameAfter(new int[] {'a'}, new int[] {'a', 'b'}), false);
        due("13: capital", sameAfter(new int[] {'a'}, new int[] {'A'}), false);
        int[] most = many(65, composed('a', 768));
        due("13: beyond 100, apart", sameAfter(join(most, new int[] {'x'}), join(most, new int[] {'x'})), true);
        due("13: beyond 100, apart", sameAfter(join(most, new int[] {'x'}), join(most, new int[] {'y'})), false);
    }

    public static void main(String[] args) {
        promise1();
        promise2();
        promise3OldKind();
        promise3EscapesAndMarks();
        promise3NewKind();
        promise3Ranks();
        promise3LimitsAndRest();
        everyCode();
        promise4();
        promise5();
        promise6();
        promise7();
        promise8();
        promise9();
        promise10();
        promise11();
        promise12();
        promise13();
        System.out.println(wrong == 0 ? "all answers are as due" : wrong + " answers are not as due");
        if (wrong != 0) {
            System.exit(1);
        }
    }
}
