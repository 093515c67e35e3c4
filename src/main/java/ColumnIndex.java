/**
 * A text whose suffixes are put in order, the column of what stands before
 * each of them, and what that column can tell.
 *
 * Every row that a call needs is made by the constructors and used again, so
 * no call makes an object.
 */
public final class ColumnIndex {
    public static final int BAD = -1;
    public static final int NONE = -2;
    public static final int FULL = -3;
    public static final int NOT = -4;

    private static final int MOST_BYTES = 96;
    private static final int MOST_SUFFIXES = MOST_BYTES + 1;
    private static final int BYTE_KINDS = 256;
    private static final int BYTES_IN_A_LONG = 8;
    /** Above every place of a text, so that a length and a place share a number. */
    private static final int LENGTH_UNIT = 128;

    private final ByteRow typed;
    private final ByteRow text;
    private final ByteRow pattern;
    private final SuffixOrder order;
    private final FrontList front;
    private final ColumnReader reader;

    public ColumnIndex() {
        typed = new ByteRow();
        text = new ByteRow();
        pattern = new ByteRow();
        order = new SuffixOrder();
        front = new FrontList();
        reader = new ColumnReader();
    }

    public int type(long bits, int n) {
        if (n < 1 || n > BYTES_IN_A_LONG) {
            return BAD;
        }
        if (n > MOST_BYTES - typed.length) {
            return FULL;
        }
        for (int i = n - 1; i >= 0; i--) {
            typed.append((int) (bits >>> (8 * i)) & 255);
        }
        return typed.length;
    }

    public int build() {
        text.copyFrom(typed);
        typed.clear();
        arrangeText();
        return text.length;
    }

    public int size() {
        return text.length;
    }

    public int at(int place) {
        return place >= 0 && place < text.length ? text.bytes[place] : BAD;
    }

    public int suffix(int rank) {
        return isSuffix(rank) ? order.suffixAt[rank] : BAD;
    }

    public int rank(int suffix) {
        return isSuffix(suffix) ? order.rankOf[suffix] : BAD;
    }

    public int column(int rank) {
        return isSuffix(rank) ? order.columnAt[rank] : BAD;
    }

    public int common(int rank) {
        return rank >= 0 && rank < text.length ? order.commonAt[rank] : BAD;
    }

    public int moved(int rank) {
        return isSuffix(rank) ? front.numberAt[rank] : BAD;
    }

    /**
     * Each row that stands in the text begins some suffix; those that the
     * suffix before in the order begins with, too, have been counted there.
     */
    public int distinct() {
        int count = 0;
        for (int rank = 0; rank < text.length; rank++) {
            int next = order.suffixAt[rank + 1];
            count += text.length - next - order.commonAt[rank];
        }
        return count;
    }

    public int repeat() {
        int longest = 0;
        int least = 0;
        for (int rank = 0; rank < text.length; rank++) {
            int alike = order.commonAt[rank];
            int place = Math.min(order.suffixAt[rank], order.suffixAt[rank + 1]);
            if (alike > longest || alike == longest && place < least) {
                longest = alike;
                least = place;
            }
        }
        return longest == 0 ? 0 : LENGTH_UNIT * longest + least;
    }

    public int seek() {
        pattern.copyFrom(typed);
        typed.clear();
        return countHits();
    }

    public int extend(int b) {
        if (b < 0 || b >= BYTE_KINDS) {
            return BAD;
        }
        if (pattern.length >= MOST_BYTES) {
            return FULL;
        }
        pattern.putInFront(b);
        return countHits();
    }

    public int before() {
        int count = 0;
        for (int suffix = 0; suffix <= text.length; suffix++) {
            if (comesBeforePattern(suffix)) {
                count++;
            }
        }
        return count;
    }

    public int hit(int k) {
        int passed = 0;
        for (int place = 0; place <= text.length; place++) {
            if (patternStandsAt(place)) {
                if (passed == k) {
                    return place;
                }
                passed++;
            }
        }
        return BAD;
    }

    public int match(int p) {
        if (p < 0 || p > pattern.length) {
            return BAD;
        }
        int most = 0;
        for (int place = 0; place <= text.length; place++) {
            most = Math.max(most, pattern.alike(p, text, place));
        }
        return most;
    }

    public int revert(int k) {
        if (k < 0 || k > typed.length) {
            return BAD;
        }
        reader.take(typed, k);
        // What is typed is given up in either case, so its row may hold the text.
        if (!reader.writeText(typed)) {
            typed.clear();
            return NOT;
        }
        return build();
    }

    private void arrangeText() {
        order.arrange(text);
        front.numberColumn(order.columnAt, text.length);
    }

    /** Ranks and suffixes are both numbered 0 .. n. */
    private boolean isSuffix(int number) {
        return number >= 0 && number <= text.length;
    }

    private int countHits() {
        int count = 0;
        for (int place = 0; place <= text.length; place++) {
            if (patternStandsAt(place)) {
                count++;
            }
        }
        return count;
    }

    private boolean patternStandsAt(int place) {
        return pattern.alike(0, text, place) == pattern.length;
    }

    private boolean comesBeforePattern(int suffix) {
        int alike = pattern.alike(0, text, suffix);
        if (alike == pattern.length) {
            return false;
        }
        int place = suffix + alike;
        return place == text.length || text.bytes[place] < pattern.bytes[alike];
    }

    /** At most 96 bytes. */
    private static final class ByteRow {
        final int[] bytes;
        int length;

        ByteRow() {
            bytes = new int[MOST_BYTES];
            length = 0;
        }

        void clear() {
            length = 0;
        }

        void append(int b) {
            if (length < MOST_BYTES) {
                bytes[length] = b;
                length++;
            }
        }

        void putInFront(int b) {
            if (length < MOST_BYTES) {
                System.arraycopy(bytes, 0, bytes, 1, length);
                bytes[0] = b;
                length++;
            }
        }

        void copyFrom(ByteRow other) {
            System.arraycopy(other.bytes, 0, bytes, 0, other.length);
            length = other.length;
        }

        /** How many bytes are the same here from one place on and in another row from its place on. */
        int alike(int place, ByteRow other, int otherPlace) {
            int most = Math.min(length - place, other.length - otherPlace);
            int count = 0;
            while (count < most && bytes[place + count] == other.bytes[otherPlace + count]) {
                count++;
            }
            return count;
        }
    }

    /** The order of a text's suffixes and the column; the empty text's as it is made. */
    private static final class SuffixOrder {
        final int[] suffixAt;
        final int[] rankOf;
        final int[] commonAt;
        final int[] columnAt;

        SuffixOrder() {
            suffixAt = new int[MOST_SUFFIXES];
            rankOf = new int[MOST_SUFFIXES];
            commonAt = new int[MOST_BYTES];
            columnAt = new int[MOST_SUFFIXES];
            columnAt[0] = NONE;
        }

        void arrange(ByteRow text) {
            for (int suffix = text.length; suffix >= 0; suffix--) {
                rankAmongShorter(text, suffix);
            }
            for (int suffix = 0; suffix <= text.length; suffix++) {
                int rank = rankOf[suffix];
                suffixAt[rank] = suffix;
                columnAt[rank] = suffix == 0 ? NONE : text.bytes[suffix - 1];
            }
            for (int rank = 0; rank < text.length; rank++) {
                commonAt[rank] = text.alike(suffixAt[rank], text, suffixAt[rank + 1]);
            }
        }

        private void rankAmongShorter(ByteRow text, int suffix) {
            int rank = 0;
            for (int shorter = suffix + 1; shorter <= text.length; shorter++) {
                if (shorterIsBefore(text, shorter, suffix)) {
                    rank++;
                }
            }
            for (int shorter = suffix + 1; shorter <= text.length; shorter++) {
                if (rankOf[shorter] >= rank) {
                    rankOf[shorter]++;
                }
            }
            rankOf[suffix] = rank;
        }

        /** Behind an equal first byte stand two suffixes that have their ranks already. */
        private boolean shorterIsBefore(ByteRow text, int shorter, int suffix) {
            if (shorter == text.length) {
                return true;
            }
            int difference = text.bytes[shorter] - text.bytes[suffix];
            return difference != 0 ? difference < 0 : rankOf[shorter + 1] < rankOf[suffix + 1];
        }
    }

    /** Moving to the front: the list, and the numbers that a column got by it; the empty text's as it is made. */
    private static final class FrontList {
        final int[] numberAt;
        private final int[] list;

        FrontList() {
            numberAt = new int[MOST_SUFFIXES];
            list = new int[BYTE_KINDS + 1];
        }

        void numberColumn(int[] column, int lastRank) {
            startAgain();
            for (int rank = 0; rank <= lastRank; rank++) {
                numberAt[rank] = moveToFront(column[rank]);
            }
        }

        private void startAgain() {
            list[0] = NONE;
            for (int b = 0; b < BYTE_KINDS; b++) {
                list[b + 1] = b;
            }
        }

        /** How many stood before the wanted one; each of them is one place further back then. */
        private int moveToFront(int wanted) {
            int number = 0;
            while (number < BYTE_KINDS && list[number] != wanted) {
                number++;
            }
            System.arraycopy(list, 0, list, 1, number);
            list[0] = wanted;
            return number;
        }
    }

    /** A column whose text is not known, and the way to that text. */
    private static final class ColumnReader {
        private final int[] column;
        private int lastRank;

        ColumnReader() {
            column = new int[MOST_SUFFIXES];
            column[0] = NONE;
            lastRank = 0;
        }

        void take(ByteRow row, int placeOfNone) {
            for (int place = 0; place < row.length; place++) {
                column[place < placeOfNone ? place : place + 1] = row.bytes[place];
            }
            column[placeOfNone] = NONE;
            lastRank = row.length;
        }

        /**
         * Goes from the empty suffix to ever longer ones. No two ranks lead to
         * the same one, and NONE would lead back to the empty suffix: if it
         * comes before every rank has been seen, the others are rings of their
         * own, and no text has this column.
         */
        boolean writeText(ByteRow row) {
            int rank = 0;
            for (int place = lastRank - 1; place >= 0; place--) {
                if (column[rank] == NONE) {
                    return false;
                }
                row.bytes[place] = column[rank];
                rank = rankOfLonger(rank);
            }
            row.length = lastRank;
            return true;
        }

        /**
         * The rank of the suffix that is longer by the byte in the column:
         * suffixes that begin with the same byte are in the order of what
         * stands behind it. NONE is less than every byte, as the empty suffix
         * is before every other one.
         */
        private int rankOfLonger(int rank) {
            int count = 0;
            for (int other = 0; other <= lastRank; other++) {
                if (column[other] < column[rank] || column[other] == column[rank] && other < rank) {
                    count++;
                }
            }
            return count;
        }
    }
}
