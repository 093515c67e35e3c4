/**
 * The sentences of promises 4 to 12 that name a boundary, and those of the terms that they use:
 * each with cases on both its sides, and with what the call leaves behind.
 */
public final class OrderBoundariesTest {
    private static final int BAD = ColumnIndex.BAD;
    private static final int NONE = ColumnIndex.NONE;
    private static final int FULL = ColumnIndex.FULL;
    private static final int NOT = ColumnIndex.NOT;
    private static final String ALIKE = Rows.ALIKE;
    private static final String RISING = Rows.RISING;
    private static final String FALLING = Rows.FALLING;
    private static final String[] TEXTS = {"", "\u0000", "a", "\u00ff", "aa", "ab", "banana", ALIKE.substring(1), ALIKE, RISING};
    private static final Due due = new Due();

    private OrderBoundariesTest() {
    }

    public static void main(String[] args) {
        sizeIsOfTheTextAlone();
        sizeAfterRefusedCalls();
        atFirstAndLast();
        atOutsideIsBad();
        suffixFirstAndLast();
        suffixOutsideIsBad();
        aLessByteComesBefore();
        aShorterBeginningComesBefore();
        rankOfFirstAndLast();
        rankOutsideIsBad();
        columnFirstAndLast();
        columnIsNoneForSuffixZero();
        columnOutsideIsBad();
        commonOfNoByteAndOfAll();
        commonOutsideIsBad();
        movedOfFirstAndLastInTheList();
        movedOutsideIsBad();
        noneLeftOfALongerText();
        distinctOfFewAndOfMany();
        repeatOfNone();
        repeatOfOneByteOrMore();
        repeatHasTheLeastPlace();
        repeatOfNinetySix();
        askingChangesNothing();
        due.end();
    }

    private static Run run(String sentence) {
        return new Run(due, sentence);
    }

    /** The text, with a pattern and typed bytes that are to be left alone. */
    private static Run runOn(String text, String sentence) {
        return run(sentence + ", n = " + text.length()).text(text).pattern("an").typed("typed");
    }

    private static void sizeIsOfTheTextAlone() {
        String name = "4: n";
        run(name).size(0);
        run(name).typed("a").size(0).build(1).size(1);
        run(name).text("a").typed(ALIKE).size(1).build(96).size(96).build(0).size(0);
        run(name).text("a").typed(ALIKE).seek(0).size(1);
        run(name).text("a").extend('a', 1).extend('a', 0).size(1);
        run(name).text("banana").typed("ba").revert(1, 2).size(2);
        run(name).text("ab").typed("annbaa").revert(4, 6).size(6);
        run(name).text("ab").revert(0, 0).size(0);
    }

    private static void sizeAfterRefusedCalls() {
        String name = "4: n, after a refused call";
        run(name).text("ab").type(0, 0, BAD).size(2);
        run(name).text("ab").typed(ALIKE).type(0, 1, FULL).size(2);
        run(name).text("ab").extend(-1, BAD).size(2);
        run(name).text("ab").typed("banana").revert(7, BAD).size(2);
        run(name).text("ab").typed("banana").revert(0, NOT).size(2);
        run(name).text(ALIKE).typed("banana").revert(0, NOT).size(96);
    }

    private static void atFirstAndLast() {
        String name = "5: The byte at a place of the text";
        run(name).at(0, BAD);
        run(name).text("a").at(-1, BAD).at(0, 'a').at(1, BAD);
        run(name).text("\u0000").at(-1, BAD).at(0, 0).at(1, BAD);
        run(name).text("\u007f\u0080\u00ff").at(0, 127).at(1, 128).at(2, 255).at(3, BAD);
        run(name).text("banana").at(-1, BAD).at(0, 'b').at(5, 'a').at(6, BAD).at(7, BAD);
        run(name).text(RISING.substring(1)).at(0, 161).at(94, 255).at(95, BAD);
        run(name).text(RISING).at(-1, BAD).at(0, 160).at(95, 255).at(96, BAD).at(97, BAD);
    }

    private static void atOutsideIsBad() {
        for (String text : TEXTS) {
            Run run = runOn(text, "5: BAD when there is none");
            for (int place : Outside.of(0, text.length() - 1)) {
                run.at(place, BAD);
            }
            run.leaves(text, "an", "typed");
        }
    }

    private static void suffixFirstAndLast() {
        String name = "6: The suffix at a rank";
        run(name).suffix(-1, BAD).suffix(0, 0).suffix(1, BAD);
        run(name).text("a").suffix(-1, BAD).suffix(0, 1).suffix(1, 0).suffix(2, BAD);
        run(name).text("banana").suffix(-1, BAD).suffix(0, 6).suffix(6, 2).suffix(7, BAD);
        run(name).text(RISING).suffix(-1, BAD).suffix(0, 96).suffix(1, 0).suffix(96, 95).suffix(97, BAD);
        run(name).text(FALLING).suffix(-1, BAD).suffix(0, 96).suffix(1, 95).suffix(96, 0).suffix(97, BAD);
    }

    private static void suffixOutsideIsBad() {
        for (String text : TEXTS) {
            Run run = runOn(text, "6: BAD when there is none");
            for (int rank : Outside.of(0, text.length())) {
                run.suffix(rank, BAD);
            }
            run.leaves(text, "an", "typed");
        }
    }

    private static void aLessByteComesBefore() {
        String name = "BEFORE: the byte of the first place in which they differ is less";
        run(name).text("\u0000\u0001").suffix(0, 2).suffix(1, 0).suffix(2, 1);
        run(name).text("\u0001\u0000").suffix(0, 2).suffix(1, 1).suffix(2, 0);
        run(name).text("\u007f\u0080").suffix(0, 2).suffix(1, 0).suffix(2, 1);
        run(name).text("\u0080\u007f").suffix(0, 2).suffix(1, 1).suffix(2, 0);
        run(name).text("\u0000\u00ff").suffix(0, 2).suffix(1, 0).suffix(2, 1);
        run(name).text("\u00ff\u0000").suffix(0, 2).suffix(1, 1).suffix(2, 0);
        String half = "x".repeat(47);
        run(name).text(half + "b" + half + "a").rank(0, 96).rank(48, 95);
        run(name).text(half + "a" + half + "b").rank(0, 95).rank(48, 96);
    }

    private static void aShorterBeginningComesBefore() {
        String name = "BEFORE: if it is another one's beginning and shorter";
        run(name).text("aa").suffix(0, 2).suffix(1, 1).suffix(2, 0);
        run(name).text("\u0000\u0000\u0000").suffix(0, 3).suffix(1, 2).suffix(2, 1).suffix(3, 0);
        run(name).text("abab").suffix(0, 4).suffix(1, 2).suffix(2, 0).suffix(3, 3).suffix(4, 1);
        run(name).text("ab\u0000ab").rank(3, 2).rank(0, 3);
        run(name).text(ALIKE).suffix(1, 95).suffix(48, 48).suffix(95, 1).suffix(96, 0);
    }

    private static void rankOfFirstAndLast() {
        String name = "7: The rank of a suffix (0 .. n)";
        run(name).rank(-1, BAD).rank(0, 0).rank(1, BAD);
        run(name).text("a").rank(-1, BAD).rank(0, 1).rank(1, 0).rank(2, BAD);
        run(name).text("banana").rank(-1, BAD).rank(0, 4).rank(5, 1).rank(6, 0).rank(7, BAD);
        run(name).text(RISING).rank(-1, BAD).rank(0, 1).rank(95, 96).rank(96, 0).rank(97, BAD);
        run(name).text(FALLING).rank(-1, BAD).rank(0, 96).rank(95, 1).rank(96, 0).rank(97, BAD);
    }

    private static void rankOutsideIsBad() {
        for (String text : TEXTS) {
            Run run = runOn(text, "7: BAD when there is none such");
            for (int suffix : Outside.of(0, text.length())) {
                run.rank(suffix, BAD);
            }
            run.leaves(text, "an", "typed");
        }
    }

    private static void columnFirstAndLast() {
        String name = "8: The column at a rank";
        run(name).column(-1, BAD).column(0, NONE).column(1, BAD);
        run(name).text("a").column(-1, BAD).column(0, 'a').column(1, NONE).column(2, BAD);
        run(name).text("banana").column(-1, BAD).column(0, 'a').column(6, 'a').column(7, BAD);
        run(name).text(RISING).column(-1, BAD).column(0, 255).column(1, NONE).column(96, 254).column(97, BAD);
        run(name).text(FALLING).column(-1, BAD).column(0, 160).column(95, 255).column(96, NONE).column(97, BAD);
    }

    private static void columnIsNoneForSuffixZero() {
        String name = "THE COLUMN: NONE for suffix 0";
        run(name).text("\u0000").column(0, 0).column(1, NONE);
        run(name).text("\u00ff").column(0, 255).column(1, NONE);
        run(name).text("ab").column(0, 'b').column(1, NONE).column(2, 'a');
        run(name).text("ba").column(0, 'a').column(1, 'b').column(2, NONE);
        run(name).text("bac").column(0, 'c').column(1, 'b').column(2, NONE).column(3, 'a');
    }

    private static void columnOutsideIsBad() {
        for (String text : TEXTS) {
            Run run = runOn(text, "8: BAD when there is none");
            for (int rank : Outside.of(0, text.length())) {
                run.column(rank, BAD);
            }
            run.leaves(text, "an", "typed");
        }
    }

    private static void commonOfNoByteAndOfAll() {
        String name = "9: With how many bytes they begin alike";
        run(name).common(-1, BAD).common(0, BAD).common(1, BAD);
        run(name).text("a").common(-1, BAD).common(0, 0).common(1, BAD).common(2, BAD);
        run(name).text("ab").common(0, 0).common(1, 0).common(2, BAD);
        run(name).text("aa").common(0, 0).common(1, 1).common(2, BAD);
        run(name).text("banana").common(-1, BAD).common(0, 0).common(2, 3).common(5, 2).common(6, BAD).common(7, BAD);
        run(name).text(RISING).common(-1, BAD).common(0, 0).common(95, 0).common(96, BAD).common(97, BAD);
        run(name).text(ALIKE).common(-1, BAD).common(0, 0).common(1, 1).common(95, 95).common(96, BAD).common(97, BAD);
    }

    private static void commonOutsideIsBad() {
        for (String text : TEXTS) {
            Run run = runOn(text, "9: BAD when there are no two such");
            for (int rank : Outside.of(0, text.length() - 1)) {
                run.common(rank, BAD);
            }
            run.leaves(text, "an", "typed");
        }
    }

    private static void movedOfFirstAndLastInTheList() {
        String name = "10: a list has NONE, 0, 1, .., 255 at first";
        run(name).moved(-1, BAD).moved(0, 0).moved(1, BAD);
        run(name).text("\u0000").moved(0, 1).moved(1, 1).moved(2, BAD);
        run(name).text("\u0001").moved(0, 2).moved(1, 1).moved(2, BAD);
        run(name).text("\u00fe").moved(0, 255).moved(1, 1).moved(2, BAD);
        run(name).text("\u00ff").moved(0, 256).moved(1, 1).moved(2, BAD);
        run(name).text("\u00ff\u00fe").moved(0, 255).moved(1, 256).moved(2, 2).moved(3, BAD);
        run(name).text("\u00fe\u00ff").moved(0, 256).moved(1, 1).moved(2, 256).moved(3, BAD);
        run(name).text(ALIKE).moved(0, 121).moved(1, 0).moved(95, 0).moved(96, 1).moved(97, BAD);
        run(name).text(RISING).moved(-1, BAD).moved(0, 256).moved(1, 1).moved(2, 162).moved(96, 256).moved(97, BAD);
    }

    private static void movedOutsideIsBad() {
        for (String text : TEXTS) {
            Run run = runOn(text, "10: BAD when there is none");
            for (int rank : Outside.of(0, text.length())) {
                run.moved(rank, BAD);
            }
            run.leaves(text, "an", "typed");
        }
    }

    private static void noneLeftOfALongerText() {
        String name = "5 to 10: BAD when there is none, though a longer text had one";
        run(name).text(RISING).text("ba").at(1, 'a').at(2, BAD).suffix(2, 0).suffix(3, BAD).rank(2, 0).rank(3, BAD)
                .column(2, NONE).column(3, BAD).common(1, 0).common(2, BAD).moved(2, 2).moved(3, BAD);
        run(name).text("banana").build(0).at(0, BAD).suffix(0, 0).suffix(1, BAD).rank(0, 0).rank(1, BAD)
                .column(0, NONE).column(1, BAD).common(0, BAD).moved(0, 0).moved(1, BAD);
        run(name).text(RISING).text("ba").leaves("ba", "", "");
        run(name).text(RISING).typed("a").revert(1, 1).leaves("a", "", "");
        run(name).text(RISING).revert(0, 0).leaves("", "", "");
    }

    private static void distinctOfFewAndOfMany() {
        String name = "11: different rows of one byte or more";
        run(name).distinct(0);
        run(name).text("a").distinct(1);
        run(name).text("\u0000").distinct(1);
        run(name).text("aa").distinct(2);
        run(name).text("ab").distinct(3);
        run(name).text("\u0000\u00ff").distinct(3);
        run(name).text(ALIKE).distinct(96).leaves(ALIKE, "", "");
        run(name).text(ALIKE.substring(1) + "y").distinct(191);
        run(name).text(RISING.substring(1)).distinct(95 * 96 / 2);
        run(name).text(RISING).distinct(96 * 97 / 2).leaves(RISING, "", "");
        run(name).text(RISING.substring(1) + RISING.charAt(1)).distinct(96 * 97 / 2 - 1);
        run(name).text(RISING).build(0).distinct(0).leaves("", "", "");
    }

    private static void repeatOfNone() {
        String name = "12: 0 when no row of one byte or more does";
        run(name).repeat(0);
        run(name).text("a").repeat(0);
        run(name).text("\u0000").repeat(0);
        run(name).text("ab").repeat(0);
        run(name).text("ba").repeat(0);
        run(name).text(RISING).repeat(0).leaves(RISING, "", "");
        run(name).text(FALLING).repeat(0).leaves(FALLING, "", "");
        run(name).text(ALIKE).repeat(128 * 95).text("ba").repeat(0).build(0).repeat(0).leaves("", "", "");
    }

    private static void repeatOfOneByteOrMore() {
        String name = "12: the longest row of bytes that stands at two places or more";
        run(name).text("aa").repeat(128);
        run(name).text("\u0000\u0000").repeat(128);
        run(name).text("aba").repeat(128);
        run(name).text("baa").repeat(128 + 1);
        run(name).text("aab").repeat(128);
        run(name).text("aaa").repeat(128 * 2);
        run(name).text("abab").repeat(128 * 2);
        run(name).text("abcab").repeat(128 * 2);
        run(name).text("abcdabe").repeat(128 * 2);
        run(name).text(RISING.substring(1) + RISING.charAt(1)).repeat(128);
        run(name).text(RISING.substring(1) + RISING.charAt(95)).repeat(128 + 94);
        run(name).text(RISING.substring(1) + RISING.charAt(94)).repeat(128 + 93);
    }

    private static void repeatHasTheLeastPlace() {
        String name = "12: the least place where one so long stands that stands at another place, too";
        run(name).text("aabb").repeat(128);
        run(name).text("bbaa").repeat(128);
        run(name).text("-bb+aa").repeat(128 + 1);
        run(name).text("-aa+bb").repeat(128 + 1);
        run(name).text("bcabca").repeat(128 * 3);
        run(name).text("xabyabzab").repeat(128 * 2 + 1);
        run(name).text("zabyabxab").repeat(128 * 2 + 1);
        run(name).text("cdcdabab").repeat(128 * 2);
        run(name).text("aabcdbcd").repeat(128 * 3 + 2);
    }

    private static void repeatOfNinetySix() {
        String name = "12: 128 times the length, plus the place, of 96";
        run(name).text(ALIKE).repeat(128 * 95).leaves(ALIKE, "", "");
        run(name).text(ALIKE.substring(1)).repeat(128 * 94);
        run(name).text(ALIKE.substring(1) + "y").repeat(128 * 94);
        run(name).text("y" + ALIKE.substring(1)).repeat(128 * 94 + 1);
        run(name).text(RISING.substring(0, 48) + RISING.substring(0, 48)).repeat(128 * 48);
        run(name).text(RISING.substring(0, 49) + RISING.substring(1, 48)).repeat(128 * 47 + 1);
        run(name).text("ab".repeat(48)).repeat(128 * 94);
    }

    private static void askingChangesNothing() {
        for (String text : new String[] {"", "banana", ALIKE}) {
            Run run = runOn(text, "4 to 12: no state change is described").size(text.length());
            Model m = new Model(text, "an", "typed");
            for (int i : new int[] {0, text.length() - 1, text.length(), 0}) {
                run.at(i, m.at(i)).suffix(i, m.suffix(i)).rank(i, m.rank(i));
                run.column(i, m.column(i)).common(i, m.common(i)).moved(i, m.moved(i));
            }
            run.distinct(m.distinct()).repeat(m.repeat()).distinct(m.distinct()).repeat(m.repeat());
            run.leaves(text, "an", "typed");
        }
    }
}
