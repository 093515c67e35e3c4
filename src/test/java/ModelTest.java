import java.util.ArrayList;
import java.util.HashMap;
import java.util.List;
import java.util.Map;
import java.util.Random;
import java.util.function.IntSupplier;

/** Compares ColumnIndex with the model: on all small texts and columns, and on long mixed runs. */
public final class ModelTest {
    private static final String SMALL_ALPHABET = "\u0000\u0001\u00ff";
    private static final int[] ODD_NUMBERS = {-1, -2, 96, 97, 98, 128, 255, 256, 257, Integer.MAX_VALUE, Integer.MIN_VALUE};
    private static final Due due = new Due();

    private ModelTest() {
    }

    public static void main(String[] args) {
        allSmallTexts("", 6);
        allSmallColumns();
        longTexts();
        for (int seed = 1; seed <= 300 && !due.anyWrong(); seed++) {
            mixedRun(seed);
        }
        due.end();
    }

    private static void allSmallTexts(String text, int more) {
        compareText(text);
        if (more > 0) {
            for (char b : SMALL_ALPHABET.toCharArray()) {
                allSmallTexts(text + b, more - 1);
            }
        }
    }

    private static void compareText(String text) {
        ColumnIndex x = new ColumnIndex();
        Model m = new Model();
        typeBoth(x, m, text);
        due.same("build()", x.build(), m.build());
        compareTold(x, m, "text " + shown(text));
    }

    /** Everything that can be asked of the text and the pattern without changing them. */
    private static void compareTold(ColumnIndex x, Model m, String where) {
        due.same(where + ": size()", x.size(), m.size());
        for (int i = -1; i <= m.size() + 1; i++) {
            due.same(where + ": at(" + i + ")", x.at(i), m.at(i));
            due.same(where + ": suffix(" + i + ")", x.suffix(i), m.suffix(i));
            due.same(where + ": rank(" + i + ")", x.rank(i), m.rank(i));
            due.same(where + ": column(" + i + ")", x.column(i), m.column(i));
            due.same(where + ": common(" + i + ")", x.common(i), m.common(i));
            due.same(where + ": moved(" + i + ")", x.moved(i), m.moved(i));
            due.same(where + ": hit(" + i + ")", x.hit(i), m.hit(i));
        }
        for (int p = -1; p <= m.patternLength() + 1; p++) {
            due.same(where + ": match(" + p + ")", x.match(p), m.match(p));
        }
        due.same(where + ": distinct()", x.distinct(), m.distinct());
        due.same(where + ": repeat()", x.repeat(), m.repeat());
        due.same(where + ": before()", x.before(), m.before());
    }

    /** A column has a text just when one of all the texts of its length has that column. */
    private static void allSmallColumns() {
        Map<List<Integer>, String> textOf = new HashMap<>();
        gatherColumns("", 6, textOf);
        tryColumns("", 6, textOf);
    }

    private static void gatherColumns(String text, int more, Map<List<Integer>, String> textOf) {
        String other = textOf.put(Model.columnOf(text), text);
        due.holds("two texts have two columns", other == null);
        if (more > 0) {
            for (char b : SMALL_ALPHABET.toCharArray()) {
                gatherColumns(text + b, more - 1, textOf);
            }
        }
    }

    private static void tryColumns(String row, int more, Map<List<Integer>, String> textOf) {
        for (int k = 0; k <= row.length(); k++) {
            tryColumn(row, k, textOf);
        }
        if (more > 0) {
            for (char b : SMALL_ALPHABET.toCharArray()) {
                tryColumns(row + b, more - 1, textOf);
            }
        }
    }

    private static void tryColumn(String row, int k, Map<List<Integer>, String> textOf) {
        List<Integer> column = new ArrayList<>();
        for (char b : row.toCharArray()) {
            column.add((int) b);
        }
        column.add(k, ColumnIndex.NONE);
        String text = textOf.get(column);
        ColumnIndex x = Typing.built("old");
        Typing.type(x, row);
        due.same("revert of " + column, x.revert(k), text == null ? ColumnIndex.NOT : text.length());
        String wanted = text == null ? "old" : text;
        due.same("size() after revert of " + column, x.size(), wanted.length());
        for (int place = 0; place < wanted.length(); place++) {
            due.same("at(" + place + ") after revert of " + column, x.at(place), wanted.charAt(place));
        }
        due.same("nothing is typed after revert of " + column, x.type(0, 1), 1);
    }

    /** Long texts that repeat themselves, forth and back by their columns, with long patterns. */
    private static void longTexts() {
        Random random = new Random(7);
        for (int kinds : new int[] {1, 2, 3, 26, 256}) {
            for (int length : new int[] {1, 2, 31, 32, 64, 95, 96}) {
                String text = row(random, length, kinds);
                compareText(text);
                compareReverted(text);
                comparePatterns(random, text);
            }
        }
        comparePatterns(random, "ab".repeat(48));
        compareReverted("aab".repeat(32));
        compareText("aab".repeat(32));
        StringBuilder falling = new StringBuilder();
        for (int b = 255; b >= 160; b--) {
            falling.append((char) b);
        }
        compareText(falling.toString());
        compareText(falling.reverse().toString());
    }

    private static void compareReverted(String text) {
        ColumnIndex x = new ColumnIndex();
        Model m = new Model();
        int k = typeColumnBoth(x, m, text);
        due.same("revert to " + shown(text), x.revert(k), m.revert(k));
        due.holds("the model reverts to " + shown(text), m.text().equals(text));
        compareTold(x, m, "reverted text " + shown(text));
    }

    private static void comparePatterns(Random random, String text) {
        ColumnIndex x = new ColumnIndex();
        Model m = new Model();
        typeBoth(x, m, text);
        due.same("build()", x.build(), m.build());
        String cut = text.substring(random.nextInt(text.length()));
        for (String pattern : new String[] {text, cut, cut + "\u0000", cut + "\u00ff", "\u00ff" + cut, ""}) {
            String typed = pattern.substring(0, Math.min(96, pattern.length()));
            typeBoth(x, m, typed);
            due.same("seek() of " + shown(typed), x.seek(), m.seek());
            compareTold(x, m, "pattern " + shown(typed) + " in " + shown(text));
        }
        for (int i = text.length() - 1; i >= 0; i--) {
            int b = text.charAt(i);
            due.same("extend(" + b + ") in " + shown(text), x.extend(b), m.extend(b));
        }
        compareTold(x, m, "extended to the text " + shown(text));
    }

    private static void mixedRun(int seed) {
        Random random = new Random(seed);
        int kinds = new int[] {1, 2, 2, 3, 5, 256}[random.nextInt(6)];
        int longest = new int[] {2, 8, 8, 8}[random.nextInt(4)];
        ColumnIndex x = new ColumnIndex();
        Model m = new Model();
        for (int call = 1; call <= 512 && !due.anyWrong(); call++) {
            String where = "run " + seed + ", call " + call;
            int kind = random.nextInt(24);
            if (kind < 7) {
                int n = random.nextInt(30) == 0 ? odd(random) : 1 + random.nextInt(longest);
                long bits = Typing.bits(row(random, 8, kinds));
                due.same(where + ": type(" + bits + ", " + n + ")", x.type(bits, n), m.type(bits, n));
            } else {
                mixedCall(x, m, where, kind, random);
            }
        }
        compareTold(x, m, "run " + seed + " at its end");
    }

    private static void mixedCall(ColumnIndex x, Model m, String where, int kind, Random random) {
        int k = random.nextInt(12) == 0 ? odd(random) : random.nextInt(m.size() + 2);
        switch (kind) {
            case 7 -> due.same(where + ": size()", x.size(), m.size());
            case 8 -> due.same(where + ": at(" + k + ")", x.at(k), m.at(k));
            case 9 -> due.same(where + ": suffix(" + k + ")", x.suffix(k), m.suffix(k));
            case 10 -> due.same(where + ": rank(" + k + ")", x.rank(k), m.rank(k));
            case 11 -> due.same(where + ": column(" + k + ")", x.column(k), m.column(k));
            case 12 -> due.same(where + ": common(" + k + ")", x.common(k), m.common(k));
            case 13 -> due.same(where + ": moved(" + k + ")", x.moved(k), m.moved(k));
            case 14 -> due.same(where + ": distinct()", x.distinct(), m.distinct());
            case 15 -> due.same(where + ": repeat()", x.repeat(), m.repeat());
            case 16 -> due.same(where + ": before()", x.before(), m.before());
            case 17 -> due.same(where + ": hit(" + k + ")", x.hit(k), m.hit(k));
            case 18 -> {
                int p = random.nextInt(m.patternLength() + 3) - 1;
                due.same(where + ": match(" + p + ")", x.match(p), m.match(p));
            }
            case 19, 20 -> {
                int b = m.size() == 0 || random.nextInt(8) == 0 ? odd(random) : m.at(random.nextInt(m.size()));
                due.same(where + ": extend(" + b + ")", x.extend(b), m.extend(b));
            }
            case 21 -> rarely(random, m, where + ": build()", () -> x.build(), () -> m.build());
            case 22 -> due.same(where + ": seek()", x.seek(), m.seek());
            default -> {
                int r = random.nextInt(4) == 0 ? odd(random) : random.nextInt(m.typedCount() + 1);
                rarely(random, m, where + ": revert(" + r + ")", () -> x.revert(r), () -> m.revert(r));
            }
        }
    }

    /** What takes the typed bytes comes seldom while they are few, so that some runs fill them up. */
    private static void rarely(Random random, Model m, String call, IntSupplier got, IntSupplier want) {
        if (random.nextInt(96) < m.typedCount() + 8) {
            due.same(call, got.getAsInt(), want.getAsInt());
        }
    }

    private static int odd(Random random) {
        return ODD_NUMBERS[random.nextInt(ODD_NUMBERS.length)];
    }

    private static void typeBoth(ColumnIndex x, Model m, String row) {
        Typing.type(x, row);
        for (char b : row.toCharArray()) {
            m.type(b, 1);
        }
    }

    /** Types a text's column; answers where NONE stands in it. */
    private static int typeColumnBoth(ColumnIndex x, Model m, String text) {
        List<Integer> column = Model.columnOf(text);
        int k = column.indexOf(ColumnIndex.NONE);
        StringBuilder row = new StringBuilder();
        for (int symbol : column) {
            if (symbol != ColumnIndex.NONE) {
                row.append((char) symbol);
            }
        }
        typeBoth(x, m, row.toString());
        return k;
    }

    private static String row(Random random, int length, int kinds) {
        StringBuilder row = new StringBuilder();
        for (int i = 0; i < length; i++) {
            row.append((char) (kinds == 256 ? random.nextInt(256) : 97 + random.nextInt(kinds)));
        }
        return row.toString();
    }

    private static String shown(String row) {
        StringBuilder shown = new StringBuilder("[");
        for (char b : row.toCharArray()) {
            shown.append(shown.length() == 1 ? "" : " ").append((int) b);
        }
        return shown.append("]").toString();
    }
}
