import java.util.ArrayList;
import java.util.HashMap;
import java.util.List;
import java.util.Map;
import java.util.Random;

/** Compares ColumnIndex with the model: on all small texts and columns, and on long mixed runs. */
public final class ModelTest {
    private static final String SMALL_ALPHABET = "\u0000\u0001\u00ff";
    private static final int[] ODD_NUMBERS = {-1, -2, 96, 97, 98, 128, 255, 256, 257, Integer.MAX_VALUE, Integer.MIN_VALUE};
    private static final int MOST_CALLS = 512;
    /** So few that a run can be played again with every question behind it. */
    private static final int CALLS_BEFORE_QUESTIONS = 200;
    private static final Due due = new Due();

    private ModelTest() {
    }

    public static void main(String[] args) {
        allSmallTexts("", 6);
        allSmallColumns();
        longTexts();
        for (int seed = 1; seed <= 300 && !due.anyWrong(); seed++) {
            mixedRun(seed, MOST_CALLS);
        }
        for (int seed = 301; seed <= 600 && !due.anyWrong(); seed++) {
            mixedRun(seed, 1 + seed % CALLS_BEFORE_QUESTIONS);
        }
        due.end();
    }

    private static void allSmallTexts(String text, int more) {
        compareText(text);
        if (more > 0) {
            for (char b : SMALL_ALPHABET.toCharArray()) {
                allSmallTexts(text + b, more - 1);
            }
        }
    }

    private static void compareText(String text) {
        new Run(due, "text " + shown(text)).text(text).leaves(text, "", "");
    }

    /** A column has a text just when one of all the texts of its length has that column. */
    private static void allSmallColumns() {
        Map<List<Integer>, String> textOf = new HashMap<>();
        gatherColumns("", 6, textOf);
        tryColumns("", 6, textOf);
    }

    private static void gatherColumns(String text, int more, Map<List<Integer>, String> textOf) {
        String other = textOf.put(Model.columnOf(text), text);
        due.holds("two texts have two columns", other == null);
        if (more > 0) {
            for (char b : SMALL_ALPHABET.toCharArray()) {
                gatherColumns(text + b, more - 1, textOf);
            }
        }
    }

    private static void tryColumns(String row, int more, Map<List<Integer>, String> textOf) {
        for (int k = 0; k <= row.length(); k++) {
            tryColumn(row, k, textOf);
        }
        if (more > 0) {
            for (char b : SMALL_ALPHABET.toCharArray()) {
                tryColumns(row + b, more - 1, textOf);
            }
        }
    }

    private static void tryColumn(String row, int k, Map<List<Integer>, String> textOf) {
        List<Integer> column = new ArrayList<>();
        for (char b : row.toCharArray()) {
            column.add((int) b);
        }
        column.add(k, ColumnIndex.NONE);
        String text = textOf.get(column);
        Run run = new Run(due, "column " + column).text("old").pattern("l").typed(row);
        if (text == null) {
            run.revert(k, ColumnIndex.NOT).leaves("old", "l", "");
        } else {
            run.revert(k, text.length()).leaves(text, "l", "");
        }
    }

    /** Long texts that repeat themselves, forth and back by their columns, with long patterns. */
    private static void longTexts() {
        Random random = new Random(7);
        for (int kinds : new int[] {1, 2, 3, 26, 256}) {
            for (int length : new int[] {1, 2, 31, 32, 64, 95, 96}) {
                String text = row(random, length, kinds);
                compareText(text);
                compareReverted(text);
                comparePatterns(random, text);
            }
        }
        comparePatterns(random, "ab".repeat(48));
        compareReverted("aab".repeat(32));
        compareText("aab".repeat(32));
        StringBuilder falling = new StringBuilder();
        for (int b = 255; b >= 160; b--) {
            falling.append((char) b);
        }
        compareText(falling.toString());
        compareText(falling.reverse().toString());
    }

    private static void compareReverted(String text) {
        List<Integer> column = Model.columnOf(text);
        int k = column.indexOf(ColumnIndex.NONE);
        StringBuilder row = new StringBuilder();
        for (int symbol : column) {
            if (symbol != ColumnIndex.NONE) {
                row.append((char) symbol);
            }
        }
        new Run(due, "the column of " + shown(text)).typed(row.toString()).revert(k, text.length()).leaves(text, "", "");
    }

    private static void comparePatterns(Random random, String text) {
        String cut = text.substring(random.nextInt(text.length()));
        for (String pattern : new String[] {text, cut, cut + "\u0000", cut + "\u00ff", "\u00ff" + cut, ""}) {
            String typed = pattern.substring(0, Math.min(96, pattern.length()));
            Model m = new Model(text, "", typed);
            new Run(due, "pattern " + shown(typed) + " in " + shown(text)).text(text).typed(typed).seek(m.seek()).tells(m);
        }
        Run run = new Run(due, "extended to the text " + shown(text)).text(text);
        Model m = new Model(text, "", "");
        for (int i = text.length() - 1; i >= 0; i--) {
            run.extend(text.charAt(i), m.extend(text.charAt(i)));
        }
        run.tells(m);
    }

    private static void mixedRun(int seed, int calls) {
        Random random = new Random(seed);
        int kinds = new int[] {1, 2, 2, 3, 5, 256}[random.nextInt(6)];
        int longest = new int[] {2, 8, 8, 8}[random.nextInt(4)];
        Run run = new Run(due, "run " + seed);
        Model m = new Model();
        while (run.callsMade() < calls) {
            int kind = random.nextInt(24);
            if (kind < 7) {
                int n = random.nextInt(30) == 0 ? odd(random) : 1 + random.nextInt(longest);
                long bits = Typing.bits(row(random, 8, kinds));
                mixedType(run, m, bits, n);
            } else {
                mixedCall(run, m, kind, random);
            }
        }
        if (calls <= CALLS_BEFORE_QUESTIONS) {
            run.tells(m);
        }
    }

    private static void mixedType(Run run, Model m, long bits, int n) {
        if (m.bothRefuseType(n)) {
            run.typeRefused(bits, n);
        } else {
            run.type(bits, n, m.type(bits, n));
        }
    }

    private static void mixedExtend(Run run, Model m, int b) {
        if (m.bothRefuseExtend(b)) {
            run.extendRefused(b);
        } else {
            run.extend(b, m.extend(b));
        }
    }

    private static void mixedCall(Run run, Model m, int kind, Random random) {
        int k = random.nextInt(12) == 0 ? odd(random) : random.nextInt(m.size() + 2);
        switch (kind) {
            case 7 -> run.size(m.size());
            case 8 -> run.at(k, m.at(k));
            case 9 -> run.suffix(k, m.suffix(k));
            case 10 -> run.rank(k, m.rank(k));
            case 11 -> run.column(k, m.column(k));
            case 12 -> run.common(k, m.common(k));
            case 13 -> run.moved(k, m.moved(k));
            case 14 -> run.distinct(m.distinct());
            case 15 -> run.repeat(m.repeat());
            case 16 -> run.before(m.before());
            case 17 -> run.hit(k, m.hit(k));
            case 18 -> {
                int p = random.nextInt(m.pattern().length() + 3) - 1;
                run.match(p, m.match(p));
            }
            case 19, 20 -> {
                int b = m.size() == 0 || random.nextInt(8) == 0 ? odd(random) : m.at(random.nextInt(m.size()));
                mixedExtend(run, m, b);
            }
            case 21 -> {
                if (isTimely(random, m)) {
                    run.build(m.build());
                }
            }
            case 22 -> run.seek(m.seek());
            default -> {
                int r = random.nextInt(4) == 0 ? odd(random) : random.nextInt(m.typed().length() + 1);
                if (isTimely(random, m)) {
                    run.revert(r, m.revert(r));
                }
            }
        }
    }

    /** What takes the typed bytes comes seldom while they are few, so that some runs fill them up. */
    private static boolean isTimely(Random random, Model m) {
        return random.nextInt(96) < m.typed().length() + 8;
    }

    private static int odd(Random random) {
        return ODD_NUMBERS[random.nextInt(ODD_NUMBERS.length)];
    }

    private static String row(Random random, int length, int kinds) {
        StringBuilder row = new StringBuilder();
        for (int i = 0; i < length; i++) {
            row.append((char) (kinds == 256 ? random.nextInt(256) : 97 + random.nextInt(kinds)));
        }
        return row.toString();
    }

    private static String shown(String row) {
        StringBuilder shown = new StringBuilder("[");
        for (char b : row.toCharArray()) {
            shown.append(shown.length() == 1 ? "" : " ").append((int) b);
        }
        return shown.append("]").toString();
    }
}
