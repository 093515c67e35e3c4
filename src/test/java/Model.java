import java.util.ArrayList;
import java.util.Collections;
import java.util.HashSet;
import java.util.List;
import java.util.Set;

/**
 * The document word by word, with the Java library and no thought of speed: what ColumnIndex is
 * compared with. Rows of bytes are Strings of the characters 0 to 255, whose compareTo is the
 * document's BEFORE.
 */
final class Model {
    private static final int BAD = -1;
    private static final int NONE = -2;
    private static final int FULL = -3;
    private static final int NOT = -4;

    private String typed = "";
    private String text = "";
    private String pattern = "";
    private List<String> order = orderOf("");
    private List<Integer> column = columnOf("");

    Model() {
    }

    /** What calls would have left that made these the text, the pattern and the typed bytes. */
    Model(String text, String pattern, String typed) {
        setText(text);
        this.pattern = pattern;
        this.typed = typed;
    }

    static List<String> orderOf(String text) {
        List<String> order = new ArrayList<>();
        for (int p = 0; p <= text.length(); p++) {
            order.add(text.substring(p));
        }
        Collections.sort(order);
        return order;
    }

    static List<Integer> columnOf(String text) {
        List<Integer> column = new ArrayList<>();
        for (String suffix : orderOf(text)) {
            int p = text.length() - suffix.length();
            column.add(p == 0 ? NONE : (int) text.charAt(p - 1));
        }
        return column;
    }

    private void setText(String row) {
        text = row;
        order = orderOf(row);
        column = columnOf(row);
    }

    String typed() {
        return typed;
    }

    String text() {
        return text;
    }

    String pattern() {
        return pattern;
    }

    /** The document names no order of the two refusals; where both fit, this model answers BAD. */
    boolean bothRefuseType(int n) {
        return n > 8 && n > 96 - typed.length();
    }

    boolean bothRefuseExtend(int b) {
        return (b < 0 || b > 255) && pattern.length() == 96;
    }

    int type(long bits, int n) {
        if (n < 1 || n > 8) {
            return BAD;
        }
        if (typed.length() + n > 96) {
            return FULL;
        }
        String added = "";
        for (int i = 0; i < n; i++) {
            added = (char) (bits & 255) + added;
            bits >>= 8;
        }
        typed += added;
        return typed.length();
    }

    int build() {
        setText(typed);
        typed = "";
        return text.length();
    }

    int size() {
        return text.length();
    }

    int at(int place) {
        return place < 0 || place >= text.length() ? BAD : text.charAt(place);
    }

    int suffix(int rank) {
        return rank < 0 || rank >= order.size() ? BAD : text.length() - order.get(rank).length();
    }

    int rank(int suffix) {
        return suffix < 0 || suffix > text.length() ? BAD : order.indexOf(text.substring(suffix));
    }

    int column(int rank) {
        return rank < 0 || rank >= order.size() ? BAD : column.get(rank);
    }

    int common(int rank) {
        if (rank < 0 || rank + 1L >= order.size()) {
            return BAD;
        }
        int count = 0;
        String a = order.get(rank);
        String b = order.get(rank + 1);
        while (count < a.length() && count < b.length() && a.charAt(count) == b.charAt(count)) {
            count++;
        }
        return count;
    }

    int moved(int rank) {
        if (rank < 0 || rank >= order.size()) {
            return BAD;
        }
        List<Integer> list = new ArrayList<>();
        list.add(NONE);
        for (int b = 0; b < 256; b++) {
            list.add(b);
        }
        int number = 0;
        for (int r = 0; r <= rank; r++) {
            number = list.indexOf(column.get(r));
            list.add(0, list.remove(number));
        }
        return number;
    }

    int distinct() {
        Set<String> rows = new HashSet<>();
        for (int from = 0; from < text.length(); from++) {
            for (int to = from + 1; to <= text.length(); to++) {
                rows.add(text.substring(from, to));
            }
        }
        return rows.size();
    }

    int repeat() {
        for (int length = text.length() - 1; length >= 1; length--) {
            for (int place = 0; place + length <= text.length(); place++) {
                String row = text.substring(place, place + length);
                if (text.indexOf(row) != text.lastIndexOf(row)) {
                    return 128 * length + place;
                }
            }
        }
        return 0;
    }

    private List<Integer> hits() {
        List<Integer> hits = new ArrayList<>();
        for (int p = 0; p <= text.length(); p++) {
            if (text.startsWith(pattern, p)) {
                hits.add(p);
            }
        }
        return hits;
    }

    int seek() {
        pattern = typed;
        typed = "";
        return hits().size();
    }

    int extend(int b) {
        if (b < 0 || b > 255) {
            return BAD;
        }
        if (pattern.length() == 96) {
            return FULL;
        }
        pattern = (char) b + pattern;
        return hits().size();
    }

    int before() {
        int count = 0;
        for (String suffix : order) {
            if (suffix.compareTo(pattern) < 0) {
                count++;
            }
        }
        return count;
    }

    int hit(int k) {
        List<Integer> hits = hits();
        return k < 0 || k >= hits.size() ? BAD : hits.get(k);
    }

    int match(int p) {
        if (p < 0 || p > pattern.length()) {
            return BAD;
        }
        int length = pattern.length() - p;
        while (!text.contains(pattern.substring(p, p + length))) {
            length--;
        }
        return length;
    }

    int revert(int k) {
        if (k < 0 || k > typed.length()) {
            return BAD;
        }
        List<Integer> wanted = new ArrayList<>();
        for (int i = 0; i < typed.length(); i++) {
            wanted.add((int) typed.charAt(i));
        }
        wanted.add(k, NONE);
        typed = "";
        String candidate = candidateFor(wanted);
        if (!columnOf(candidate).equals(wanted)) {
            return NOT;
        }
        setText(candidate);
        return text.length();
    }

    /**
     * The column is put before sorted rows again and again, until they are as long as the column;
     * if a text has the column, it is in the first row, behind NONE. Here NONE is character 0 and
     * a byte b is character b + 1.
     */
    private static String candidateFor(List<Integer> column) {
        List<String> rows = new ArrayList<>(Collections.nCopies(column.size(), ""));
        for (int round = 0; round < column.size(); round++) {
            for (int r = 0; r < column.size(); r++) {
                int symbol = column.get(r) == NONE ? 0 : column.get(r) + 1;
                rows.set(r, (char) symbol + rows.get(r));
            }
            Collections.sort(rows);
        }
        StringBuilder candidate = new StringBuilder();
        for (char symbol : rows.get(0).substring(1).toCharArray()) {
            candidate.append((char) (symbol == 0 ? 0 : symbol - 1));
        }
        return candidate.toString();
    }
}
