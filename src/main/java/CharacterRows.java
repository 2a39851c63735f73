/**
 * Texts in two kinds of bytes, an old one with escapes into sets and marks ahead of their letters,
 * and a new one with one to three bytes a character. DOC.md has the promises, by number.
 */
public final class CharacterRows {
    public static final int NONE = -1;

    private static final int MOST_COLLECTED = 200;
    private static final int MOST_CHARACTERS = 100;
    // Every character of a text may be COMPOSED, and is two when it is taken apart.
    private static final int MOST_APART = 2 * MOST_CHARACTERS;
    // Kind 0 is the longer one at worst: an escape of three bytes ahead of every character's byte.
    private static final int MOST_WRITTEN = 4 * MOST_CHARACTERS;

    private static final int FIRST_PLAIN = 32;
    private static final int LAST_PLAIN = 126;
    private static final int FIRST_STAND_IN = 63;

    private static final int SETS = 3;
    private static final int PLACES = 94;
    private static final int FIRST_PLACE_BYTE = 161;
    private static final int FIRST_LATIN = 192;
    private static final int LATINS = 30;
    private static final int FIRST_GREEK = 913;
    private static final int GREEKS = 57;
    private static final int FIRST_CYRILLIC = 1040;
    private static final int CYRILLICS = 64;

    private static final int FIRST_MARK = 768;
    private static final int MARKS = 15;
    private static final int FIRST_MARK_PLACE = 40;
    private static final int MARKS_OF_A_RANK = 5;

    private static final int FIRST_COMPOSED = 57344;
    private static final int LETTERS_OF_A_MARK = 64;
    private static final int BEFORE_LETTERS = 64;

    private static final int ESCAPE = 27;
    private static final int ESCAPE_SECOND = 103;
    private static final int ESCAPE_SET_0 = 48;
    private static final int ESCAPE_BYTES = 3;

    private final Octets collected;
    private final Octets written;
    private Codes text;
    private Codes other;
    private Codes fresh;
    private Codes apart;
    private final Codes otherApart;
    private final Codes waitingMarks;
    private final Codes toldCodes;
    private final Codes toldPlaces;
    private int standIn;

    public CharacterRows() {
        collected = new Octets(new byte[MOST_COLLECTED]);
        written = new Octets(new byte[MOST_WRITTEN]);
        text = new Codes();
        other = new Codes();
        fresh = new Codes();
        apart = new Codes();
        otherApart = new Codes();
        waitingMarks = new Codes();
        toldCodes = new Codes();
        toldPlaces = new Codes();
        standIn = FIRST_STAND_IN;
    }

    public void octet(byte b) {
        collected.add(b);
    }

    public int read(int kind) {
        fresh.empty();
        int wrong = kind == 0 ? wrongInOldKind() : wrongInNewKind();
        collected.empty();
        if (wrong != NONE) {
            return -1 - wrong;
        }
        fresh.putInOrder();
        // The rows change places, so that no read makes a new one.
        Codes free = other;
        other = text;
        text = fresh;
        fresh = free;
        return text.length;
    }

    public int character(int i) {
        return text.at(i);
    }

    public int write(int kind) {
        written.empty();
        toldCodes.empty();
        toldPlaces.empty();
        if (kind == 0) {
            writeOldKind();
        } else {
            writeNewKind();
        }
        return written.length;
    }

    public byte octet2(int i) {
        int value = written.at(i);
        return value == NONE ? 0 : (byte) value;
    }

    public int compose(int form) {
        if (form != 0 && form != 1) {
            return NONE;
        }
        apart.takeApart(text);
        if (form == 1) {
            apart.putTogether();
        }
        if (apart.length > MOST_CHARACTERS) {
            return NONE;
        }
        Codes free = text;
        text = apart;
        apart = free;
        return text.length;
    }

    public int told(int i, int what) {
        if (what == 0) {
            return toldCodes.at(i);
        }
        return what == 1 ? toldPlaces.at(i) : NONE;
    }

    public int stand(int code) {
        if (!isPlain(code)) {
            return NONE;
        }
        int before = standIn;
        standIn = code;
        return before;
    }

    public int nonfiling(int count, int of) {
        if (count < 0 || of < 0) {
            return NONE;
        }
        int place = text.placeOfBase((long) count + of);
        if (place != NONE) {
            return keyOf(text.at(place));
        }
        return text.bases() < count ? NONE : 0;
    }

    public int mark(int i) {
        int place = text.placeOfBase(i);
        if (place == NONE) {
            return NONE;
        }
        int inside = isComposed(text.at(place)) ? 1 : 0;
        return inside + text.marksBehind(place);
    }

    public int row(int set, int i) throws ArrayIndexOutOfBoundsException {
        if (set < 0 || set >= SETS) {
            return NONE;
        }
        if (i < 0 || i >= PLACES) {
            throw new ArrayIndexOutOfBoundsException("a set's places are 0 to 93");
        }
        return codeInSet(set, i);
    }

    public boolean same(int other) {
        if (other == 0) {
            return true;
        }
        if (other != 1) {
            return false;
        }
        apart.takeApart(text);
        otherApart.takeApart(this.other);
        return apart.holdsWhat(otherApart);
    }

    /** Reads kind 0 into the fresh row: the place that is WRONG, or NONE. */
    private int wrongInOldKind() {
        int setOn = 0;
        int firstMark = NONE;
        waitingMarks.empty();
        for (int p = 0; p < collected.length; p++) {
            int value = collected.at(p);
            if (value == ESCAPE) {
                setOn = setOfEscape(p);
                if (setOn == NONE) {
                    return p;
                }
                p += ESCAPE_BYTES - 1;
                continue;
            }
            int code = codeOfOldByte(value, setOn);
            if (code == 0) {
                return p;
            }
            if (isMark(code)) {
                firstMark = waitingMarks.length == 0 ? p : firstMark;
                waitingMarks.add(code);
                continue;
            }
            if (fresh.length + 1 + waitingMarks.length > MOST_CHARACTERS) {
                return waitingMarks.length == 0 ? p : firstMark;
            }
            fresh.add(code);
            fresh.addAll(waitingMarks);
            waitingMarks.empty();
        }
        return waitingMarks.length == 0 ? NONE : firstMark;
    }

    /** The set that the escape at a place turns on, NONE if it goes on otherwise or ends. */
    private int setOfEscape(int place) {
        int set = collected.at(place + 2) - ESCAPE_SET_0;
        boolean right = collected.at(place + 1) == ESCAPE_SECOND && set >= 0 && set < SETS;
        return right ? set : NONE;
    }

    /** The code of a byte of kind 0 that is no escape, 0 if it has none. */
    private static int codeOfOldByte(int value, int setOn) {
        return isPlain(value) ? value : codeInSet(setOn, value - FIRST_PLACE_BYTE);
    }

    /** Reads kind 1 into the fresh row: the place that is WRONG, or NONE. */
    private int wrongInNewKind() {
        for (int p = 0; p < collected.length; p++) {
            int code = codeOfNewBytes(p);
            boolean known = isPlain(code) || setOf(code) != NONE || isComposed(code);
            boolean ownerless = isMark(code) && fresh.length == 0;
            if (!known || ownerless || fresh.length >= MOST_CHARACTERS) {
                return p;
            }
            fresh.add(code);
            p += bytesBehindFirst(code);
        }
        return NONE;
    }

    /** The code whose bytes of kind 1 begin at a place, NONE if they are not as they must be. */
    private int codeOfNewBytes(int place) {
        int first = collected.at(place);
        if (first < 128) {
            return first;
        }
        if (first < 192 || first >= 240) {
            return NONE;
        }
        int behind = first < 224 ? 1 : 2;
        int code = first < 224 ? first - 192 : first - 224;
        for (int k = 1; k <= behind; k++) {
            int next = collected.at(place + k);
            if (next < 128 || next > 191) {
                return NONE;
            }
            code = code * 64 + next - 128;
        }
        return bytesBehindFirst(code) == behind ? code : NONE;
    }

    private static int bytesBehindFirst(int code) {
        if (code < 128) {
            return 0;
        }
        return code < 2048 ? 1 : 2;
    }

    private void writeOldKind() {
        int setOn = 0;
        boolean ownerLost = true;
        for (int i = 0; i < text.length; i++) {
            int code = text.at(i);
            if (isMark(code)) {
                // A mark with an owner stands ahead of it, and is written already.
                if (ownerLost) {
                    tell(code, i);
                }
                continue;
            }
            ownerLost = !isPlain(code) && setOf(code) == NONE;
            if (ownerLost) {
                written.add(standIn);
                tell(code, i);
                continue;
            }
            int marks = text.marksBehind(i);
            for (int k = 1; k <= marks; k++) {
                setOn = writeOldCode(text.at(i + k), setOn);
            }
            setOn = writeOldCode(code, setOn);
        }
    }

    private void tell(int code, int place) {
        toldCodes.add(code);
        toldPlaces.add(place);
    }

    /** Writes a code of kind 0, with an escape where it needs one: the set that is on then. */
    private int writeOldCode(int code, int setOn) {
        if (isPlain(code)) {
            written.add(code);
            return setOn;
        }
        int set = setOf(code);
        if (set != setOn) {
            written.add(ESCAPE);
            written.add(ESCAPE_SECOND);
            written.add(ESCAPE_SET_0 + set);
        }
        written.add(FIRST_PLACE_BYTE + placeInSet(code));
        return set;
    }

    private void writeNewKind() {
        for (int i = 0; i < text.length; i++) {
            writeNewCode(text.at(i));
        }
    }

    private void writeNewCode(int code) {
        int behind = bytesBehindFirst(code);
        if (behind == 0) {
            written.add(code);
            return;
        }
        if (behind == 1) {
            written.add(192 + code / 64);
        } else {
            written.add(224 + code / 4096);
            written.add(128 + code / 64 % 64);
        }
        written.add(128 + code % 64);
    }

    private static boolean isPlain(int code) {
        return code >= FIRST_PLAIN && code <= LAST_PLAIN;
    }

    private static boolean isCapital(int code) {
        return code >= 'A' && code <= 'Z';
    }

    private static boolean isLetter(int code) {
        return isCapital(code) || code >= 'a' && code <= 'z';
    }

    private static boolean isMark(int code) {
        return code >= FIRST_MARK && code < FIRST_MARK + MARKS;
    }

    private static int rankOf(int mark) {
        return (mark - FIRST_MARK) / MARKS_OF_A_RANK;
    }

    private static boolean isComposed(int code) {
        return code >= FIRST_COMPOSED
                && code < FIRST_COMPOSED + LETTERS_OF_A_MARK * MARKS
                && isLetter(letterOf(code));
    }

    private static int letterOf(int composed) {
        return (composed - FIRST_COMPOSED) % LETTERS_OF_A_MARK + BEFORE_LETTERS;
    }

    private static int markOf(int composed) {
        return (composed - FIRST_COMPOSED) / LETTERS_OF_A_MARK + FIRST_MARK;
    }

    private static int composedOf(int letter, int mark) {
        return FIRST_COMPOSED + LETTERS_OF_A_MARK * (mark - FIRST_MARK) + letter - BEFORE_LETTERS;
    }

    /** A character as it stands in a key: a COMPOSED capital is a small letter there too. */
    private static int keyOf(int code) {
        int bare = isComposed(code) ? letterOf(code) : code;
        return isCapital(bare) ? bare - 'A' + 'a' : bare;
    }

    private static boolean isLatin(int code) {
        return code >= FIRST_LATIN && code < FIRST_LATIN + LATINS;
    }

    private static boolean isGreek(int code) {
        return code >= FIRST_GREEK && code < FIRST_GREEK + GREEKS;
    }

    private static boolean isCyrillic(int code) {
        return code >= FIRST_CYRILLIC && code < FIRST_CYRILLIC + CYRILLICS;
    }

    /** The set that has a code (no two sets share one), NONE if none has it. */
    private static int setOf(int code) {
        if (isLatin(code) || isMark(code)) {
            return 0;
        }
        if (isGreek(code)) {
            return 1;
        }
        return isCyrillic(code) ? 2 : NONE;
    }

    /** The place of a code in the set that has it. */
    private static int placeInSet(int code) {
        if (isMark(code)) {
            return code - FIRST_MARK + FIRST_MARK_PLACE;
        }
        if (isGreek(code)) {
            return code - FIRST_GREEK;
        }
        return isCyrillic(code) ? code - FIRST_CYRILLIC : code - FIRST_LATIN;
    }

    /** The code at a place of a set, 0 if there is none. */
    private static int codeInSet(int set, int place) {
        if (set == 0) {
            int mark = place - FIRST_MARK_PLACE + FIRST_MARK;
            return isMark(mark) ? mark : codeInRange(place, FIRST_LATIN, LATINS);
        }
        if (set == 1) {
            return codeInRange(place, FIRST_GREEK, GREEKS);
        }
        return set == 2 ? codeInRange(place, FIRST_CYRILLIC, CYRILLICS) : 0;
    }

    private static int codeInRange(int place, int first, int many) {
        return place >= 0 && place < many ? first + place : 0;
    }

    /** A row of bytes; what is added beyond its room is lost. */
    private static final class Octets {
        private final byte[] bytes;
        private int length;

        Octets(byte[] room) {
            bytes = room;
            length = 0;
        }

        void empty() {
            length = 0;
        }

        void add(int value) {
            if (length < bytes.length) {
                bytes[length] = (byte) value;
                length++;
            }
        }

        /** Byte i as 0 .. 255, NONE if there is none such. */
        int at(int i) {
            return i >= 0 && i < length ? bytes[i] & 255 : NONE;
        }
    }

    /** A row of codes, with room for a whole text that is taken apart. */
    private static final class Codes {
        private final int[] codes;
        private int length;

        Codes() {
            codes = new int[MOST_APART];
            length = 0;
        }

        void empty() {
            length = 0;
        }

        void add(int code) {
            if (length < codes.length) {
                codes[length] = code;
                length++;
            }
        }

        void addAll(Codes more) {
            for (int i = 0; i < more.length; i++) {
                add(more.at(i));
            }
        }

        int at(int i) {
            return i >= 0 && i < length ? codes[i] : NONE;
        }

        private void put(int i, int code) {
            if (i >= 0 && i < length) {
                codes[i] = code;
            }
        }

        void putInOrder() {
            for (int i = 1; i < length; i++) {
                if (isMark(at(i))) {
                    moveAhead(i);
                }
            }
        }

        /** Moves a mark ahead of the marks of a higher rank that it stands right behind. */
        private void moveAhead(int from) {
            int moved = at(from);
            int to = from;
            while (to > 0 && isMark(at(to - 1)) && rankOf(at(to - 1)) > rankOf(moved)) {
                put(to, at(to - 1));
                to--;
            }
            put(to, moved);
        }

        void takeApart(Codes whole) {
            empty();
            for (int i = 0; i < whole.length; i++) {
                int code = whole.at(i);
                if (isComposed(code)) {
                    add(letterOf(code));
                    add(markOf(code));
                } else {
                    add(code);
                }
            }
            putInOrder();
        }

        void putTogether() {
            int kept = 0;
            for (int i = 0; i < length; i++) {
                int code = at(i);
                int next = at(i + 1);
                if (isLetter(code) && isMark(next)) {
                    code = composedOf(code, next);
                    i++;
                }
                put(kept, code);
                kept++;
            }
            length = kept;
        }

        /** The place of a character that is no mark, counted among these; NONE if there is none such. */
        int placeOfBase(long wanted) {
            long met = 0;
            for (int i = 0; i < length; i++) {
                if (isMark(at(i))) {
                    continue;
                }
                if (met == wanted) {
                    return i;
                }
                met++;
            }
            return NONE;
        }

        /** How many characters are no marks. */
        int bases() {
            int met = 0;
            for (int i = 0; i < length; i++) {
                met += isMark(at(i)) ? 0 : 1;
            }
            return met;
        }

        int marksBehind(int place) {
            int marks = 0;
            for (int i = place + 1; i < length && isMark(at(i)); i++) {
                marks++;
            }
            return marks;
        }

        boolean holdsWhat(Codes that) {
            if (length != that.length) {
                return false;
            }
            for (int i = 0; i < length; i++) {
                if (at(i) != that.at(i)) {
                    return false;
                }
            }
            return true;
        }
    }
}
