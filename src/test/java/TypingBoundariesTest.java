/**
 * The sentences of promises 1, 2, 3 and 18 that name a boundary: each with cases on both its sides,
 * and with what the call leaves behind.
 */
public final class TypingBoundariesTest {
    private static final int BAD = ColumnIndex.BAD;
    private static final int FULL = ColumnIndex.FULL;
    private static final int NOT = ColumnIndex.NOT;
    private static final long ONE_TO_EIGHT = 0x0102030405060708L;
    private static final String ONE_TO_EIGHT_ROW = "\u0001\u0002\u0003\u0004\u0005\u0006\u0007\u0008";
    private static final String ALIKE = Rows.ALIKE;
    private static final String RISING = Rows.RISING;
    private static final Due due = new Due();

    private TypingBoundariesTest() {
    }

    public static void main(String[] args) {
        newObjectHasNothing();
        newObjectAnswersEachFirstCall();
        typeTakesOneToEight();
        typeOfAnotherNumberIsBad();
        typeTakesLowestBytesHighestFirst();
        typeFillsNinetySixAndNoMore();
        typeWhenFullIsFull();
        typeOfAnotherNumberIsBadThoughThereWouldBeRoom();
        typeHasRoomAgain();
        buildOfNothing();
        buildOfOneAndOfNinetySix();
        buildLeavesNothingTyped();
        buildKeepsThePattern();
        buildTellsThePatternOfTheNewText();
        revertOfNothingTyped();
        revertWithNoneFirstAndLast();
        revertOutsideIsBad();
        revertAfterBad();
        revertToNoText();
        revertAfterNot();
        revertOfEachPlaceOfNone();
        revertOfNinetySix();
        revertOfLeastAndGreatestByte();
        theLastOfAllCalls();
        due.end();
    }

    private static Run run(String sentence) {
        return new Run(due, sentence);
    }

    private static void newObjectHasNothing() {
        run("1: Nothing typed, an empty text, an empty pattern").leaves("", "", "");
    }

    private static void newObjectAnswersEachFirstCall() {
        String name = "1: the first call on a new object";
        run(name).type(ONE_TO_EIGHT, 1, 1).leaves("", "", "\u0008");
        run(name).type(ONE_TO_EIGHT, 0, BAD).leaves("", "", "");
        run(name).build(0).leaves("", "", "");
        run(name).seek(1).leaves("", "", "");
        run(name).extend('a', 0).leaves("", "a", "");
        run(name).extend(256, BAD).leaves("", "", "");
        run(name).revert(0, 0).leaves("", "", "");
        run(name).revert(1, BAD).leaves("", "", "");
        run(name).size(0).leaves("", "", "");
        run(name).column(0, ColumnIndex.NONE).leaves("", "", "");
        run(name).hit(0, 0).leaves("", "", "");
        run(name).before(0).leaves("", "", "");
    }

    private static void typeTakesOneToEight() {
        for (int n = 1; n <= 8; n++) {
            String lowest = ONE_TO_EIGHT_ROW.substring(8 - n);
            run("2: n is 1 .. 8").type(ONE_TO_EIGHT, n, n).leaves("", "", lowest);
            run("2: n is 1 .. 8").text("ab").pattern("b").typed("xyz").type(ONE_TO_EIGHT, n, 3 + n)
                    .leaves("ab", "b", "xyz" + lowest);
        }
    }

    private static void typeOfAnotherNumberIsBad() {
        Run nothing = run("2: BAD when n is not 1 .. 8, nothing typed");
        Run some = run("2: BAD when n is not 1 .. 8, some typed").text("ab").pattern("b").typed("xyz");
        for (int n : Outside.of(1, 8)) {
            typeOfAnotherNumber(nothing, 0, n);
            typeOfAnotherNumber(some, 3, n);
        }
        nothing.leaves("", "", "");
        some.leaves("ab", "b", "xyz").type(ONE_TO_EIGHT, 1, 4).leaves("ab", "b", "xyz\u0008");
    }

    /** Where there would be more than 96, too, both refusals fit, and the document names no order of the two. */
    private static void typeOfAnotherNumber(Run run, int typed, int n) {
        if (n > 96 - typed) {
            run.typeRefused(ONE_TO_EIGHT, n);
        } else {
            run.type(ONE_TO_EIGHT, n, BAD);
        }
    }

    private static void typeTakesLowestBytesHighestFirst() {
        String name = "2: the lowest n bytes of bits, the highest of them first";
        run(name).type(0xff00L, 1, 1).leaves("", "", "\u0000");
        run(name).type(0xff00L, 2, 2).leaves("", "", "\u00ff\u0000");
        run(name).type(-1L, 1, 1).leaves("", "", "\u00ff");
        run(name).type(-1L, 8, 8).leaves("", "", "\u00ff".repeat(8));
        run(name).type(Long.MIN_VALUE, 7, 7).leaves("", "", "\u0000".repeat(7));
        run(name).type(Long.MIN_VALUE, 8, 8).leaves("", "", "\u0080" + "\u0000".repeat(7));
        run(name).type(Long.MAX_VALUE, 8, 8).leaves("", "", "\u007f" + "\u00ff".repeat(7));
        run(name).type(0x80ff7f00L, 4, 4).leaves("", "", "\u0080\u00ff\u007f\u0000");
        run(name).type(0x80ff7f0001L, 5, 5).leaves("", "", "\u0080\u00ff\u007f\u0000\u0001");
    }

    private static void typeFillsNinetySixAndNoMore() {
        for (int n = 1; n <= 8; n++) {
            String fits = RISING.substring(n);
            String lowest = ONE_TO_EIGHT_ROW.substring(8 - n);
            run("2: there would be 96").text("ab").pattern("b").typed(fits).type(ONE_TO_EIGHT, n, 96)
                    .leaves("ab", "b", fits + lowest);
            String tooMany = RISING.substring(n - 1);
            Run full = run("2: FULL when there would be more than 96").text("ab").pattern("b").typed(tooMany)
                    .type(ONE_TO_EIGHT, n, FULL).leaves("ab", "b", tooMany);
            if (n > 1) {
                full.type(ONE_TO_EIGHT, n - 1, 96).leaves("ab", "b", tooMany + lowest.substring(1));
            }
        }
    }

    private static void typeWhenFullIsFull() {
        Run full = run("2: FULL when there would be more than 96, 96 typed").text("ab").pattern("b").typed(RISING);
        for (int n = 1; n <= 8; n++) {
            full.type(ONE_TO_EIGHT, n, FULL);
        }
        full.leaves("ab", "b", RISING);
        Run almost = run("2: FULL when there would be more than 96, 95 typed").typed(RISING.substring(1));
        for (int n = 2; n <= 8; n++) {
            almost.type(ONE_TO_EIGHT, n, FULL);
        }
        almost.leaves("", "", RISING.substring(1)).type(ONE_TO_EIGHT, 1, 96);
    }

    /** For n = 0 at 96 typed, and for n = 9 at 87, there would be no more than 96. */
    private static void typeOfAnotherNumberIsBadThoughThereWouldBeRoom() {
        run("2: BAD when n is 0, 96 typed").typed(RISING).type(ONE_TO_EIGHT, 0, BAD).type(ONE_TO_EIGHT, -1, BAD)
                .leaves("", "", RISING);
        run("2: BAD when n is 9, 87 typed").typed(RISING.substring(9)).type(ONE_TO_EIGHT, 9, BAD)
                .leaves("", "", RISING.substring(9));
        run("2: BAD or FULL when n is 9, 88 typed").typed(RISING.substring(8)).typeRefused(ONE_TO_EIGHT, 9)
                .leaves("", "", RISING.substring(8)).type(ONE_TO_EIGHT, 8, 96);
    }

    private static void typeHasRoomAgain() {
        String name = "2: there is room again when nothing is typed";
        run(name).typed(RISING).type(0, 1, FULL).build(96).type(ONE_TO_EIGHT, 8, 8)
                .leaves(RISING, "", ONE_TO_EIGHT_ROW);
        run(name).typed(RISING).type(0, 1, FULL).seek(0).type(ONE_TO_EIGHT, 8, 8)
                .leaves("", RISING, ONE_TO_EIGHT_ROW);
        run(name).typed(ALIKE).type(0, 1, FULL).revert(96, 96).type(ONE_TO_EIGHT, 8, 8)
                .leaves(ALIKE, "", ONE_TO_EIGHT_ROW);
        run(name).typed(ALIKE).type(0, 1, FULL).revert(0, NOT).type(ONE_TO_EIGHT, 8, 8)
                .leaves("", "", ONE_TO_EIGHT_ROW);
    }

    private static void buildOfNothing() {
        String name = "3: The typed bytes (perhaps none) become the text";
        run(name).build(0).leaves("", "", "");
        run(name).text("banana").build(0).leaves("", "", "");
        run(name).text("banana").pattern("an").build(0).leaves("", "an", "");
        run(name).text(RISING).build(0).leaves("", "", "");
    }

    private static void buildOfOneAndOfNinetySix() {
        String name = "3: The typed bytes become the text: n";
        run(name).typed("a").build(1).leaves("a", "", "");
        run(name).typed("\u0000").build(1).leaves("\u0000", "", "");
        run(name).typed(RISING.substring(1)).build(95).leaves(RISING.substring(1), "", "");
        run(name).typed(RISING).build(96).leaves(RISING, "", "");
        run(name).text(RISING).typed("a").build(1).leaves("a", "", "");
        run(name).text("a").typed(RISING).build(96).leaves(RISING, "", "");
        run(name).typed(RISING).type(0, 1, FULL).build(96).leaves(RISING, "", "");
        run(name).typed("ab").type(0, 9, BAD).build(2).leaves("ab", "", "");
    }

    private static void buildLeavesNothingTyped() {
        String name = "3: nothing is typed then";
        run(name).typed("banana").build(6).build(0).leaves("", "", "");
        run(name).typed("banana").build(6).seek(7).leaves("banana", "", "");
        run(name).typed("banana").build(6).revert(1, BAD).leaves("banana", "", "");
        run(name).typed("banana").build(6).revert(0, 0).leaves("", "", "");
        run(name).typed("banana").build(6).type('s', 1, 1).leaves("banana", "", "s");
    }

    private static void buildKeepsThePattern() {
        String name = "3: The pattern stays";
        run(name).pattern("an").typed("banana").build(6).leaves("banana", "an", "");
        run(name).pattern("an").text("banana").build(0).leaves("", "an", "");
        run(name).text("banana").pattern("nan").typed("an").build(2).leaves("an", "nan", "");
        run(name).text("banana").pattern("nan").typed("nan").build(3).leaves("nan", "nan", "");
        run(name).pattern(RISING).typed(RISING).build(96).extend('a', FULL).leaves(RISING, RISING, "");
        run(name).pattern(RISING).typed(RISING.substring(1)).build(95).leaves(RISING.substring(1), RISING, "");
        run(name).extend('n', 0).extend('a', 0).typed("banana").build(6).leaves("banana", "an", "");
    }

    private static void buildTellsThePatternOfTheNewText() {
        String name = "3: where it stands is told of the new text";
        run(name).text("banana").pattern("an").hit(1, 3).before(2).match(0, 2)
                .text("nab").hit(0, BAD).before(2).match(0, 1)
                .text("ana").hit(0, 0).hit(1, BAD).before(2).match(0, 2)
                .text("anan").hit(1, 2).hit(2, BAD).before(1)
                .build(0).hit(0, BAD).before(1).match(0, 0);
        run(name).text("banana").hit(6, 6).hit(7, BAD).text("ab").hit(2, 2).hit(3, BAD).build(0).hit(0, 0).hit(1, BAD);
        run(name).text("xy").pattern("n").text("banana").extend('a', 2).leaves("banana", "an", "");
        run(name).text("banana").pattern("n").text("xy").extend('a', 0).leaves("xy", "an", "");
    }

    private static void revertOfNothingTyped() {
        String name = "18: k is 0 and nothing is typed";
        run(name).revert(0, 0).leaves("", "", "");
        run(name).text("banana").pattern("an").revert(0, 0).leaves("", "an", "");
        run(name).text(RISING).revert(0, 0).leaves("", "", "");
        Run none = run("18: BAD when k is not 0, nothing typed").text("banana").pattern("an");
        for (int k : Outside.of(0, 0)) {
            none.revert(k, BAD);
        }
        none.leaves("banana", "an", "");
    }

    private static void revertWithNoneFirstAndLast() {
        String name = "18: k is 0 .. as many as are typed";
        run(name).text("old").pattern("d").typed("a").revert(0, NOT).leaves("old", "d", "");
        run(name).text("old").pattern("d").typed("a").revert(1, 1).leaves("a", "d", "");
        run(name).text("old").pattern("d").typed("aaa").revert(0, NOT).leaves("old", "d", "");
        run(name).text("old").pattern("d").typed("aaa").revert(3, 3).leaves("aaa", "d", "");
        run(name).text("old").pattern("d").typed("aba").revert(3, NOT).leaves("old", "d", "");
        run(name).text("old").pattern("d").typed("abb").revert(3, 3).leaves("bba", "d", "");
        run(name).text("old").pattern("d").typed("abc").revert(3, 3).leaves("cba", "d", "");
        run(name).text("old").pattern("d").typed("cab").revert(1, 3).leaves("abc", "d", "");
    }

    private static void revertOutsideIsBad() {
        for (String row : new String[] {"a", "ba", "annbaa", ALIKE.substring(1), ALIKE, RISING}) {
            Run run = run("18: BAD when k is not 0 .. " + row.length()).text("old").pattern("d").typed(row);
            for (int k : Outside.of(0, row.length())) {
                run.revert(k, BAD);
            }
            run.leaves("old", "d", row);
        }
    }

    private static void revertAfterBad() {
        String name = "18: BAD (nothing changes, also what is typed)";
        run(name).typed("annbaa").revert(7, BAD).revert(4, 6).leaves("banana", "", "");
        run(name).typed("annbaa").revert(-1, BAD).revert(4, 6).leaves("banana", "", "");
        run(name).typed("annb").revert(5, BAD).typed("aa").revert(4, 6).leaves("banana", "", "");
        run(name).typed("annb").revert(5, BAD).build(4).leaves("annb", "", "");
        run(name).text("banana").typed("an").revert(3, BAD).seek(2).leaves("banana", "an", "");
        run(name).typed(ALIKE).revert(97, BAD).type(0, 1, FULL).revert(96, 96).leaves(ALIKE, "", "");
        run(name).typed(ALIKE).revert(-1, BAD).type(0, 1, FULL).revert(0, NOT).leaves("", "", "");
    }

    private static void revertToNoText() {
        String name = "18: NOT when no text has that column";
        run(name).text("old").pattern("d").typed("aa").revert(0, NOT).leaves("old", "d", "");
        run(name).text("old").pattern("d").typed("aa").revert(1, NOT).leaves("old", "d", "");
        run(name).text("old").pattern("d").typed("aa").revert(2, 2).leaves("aa", "d", "");
        run(name).text("old").pattern("d").typed("ab").revert(1, NOT).leaves("old", "d", "");
        run(name).text("old").pattern("d").typed("ba").revert(1, 2).leaves("ab", "d", "");
        run(name).text("old").pattern("d").typed("ba").revert(2, NOT).leaves("old", "d", "");
        run(name).text("old").pattern("d").typed("ab").revert(2, 2).leaves("ba", "d", "");
        run(name).typed("ba").revert(0, NOT).leaves("", "", "");
        run(name).text(RISING).pattern(RISING).typed("ba").revert(0, NOT).leaves(RISING, RISING, "");
    }

    private static void revertAfterNot() {
        String name = "18: NOT (nothing is typed then, the text stays)";
        run(name).text("old").typed("ba").revert(0, NOT).revert(1, BAD).leaves("old", "", "");
        run(name).text("old").typed("ba").revert(0, NOT).revert(0, 0).leaves("", "", "");
        run(name).text("old").typed("ba").revert(0, NOT).build(0).leaves("", "", "");
        run(name).text("old").typed("ba").revert(0, NOT).seek(4).leaves("old", "", "");
        run(name).text("old").typed("ba").revert(0, NOT).typed("ba").revert(1, 2).leaves("ab", "", "");
        run(name).text("old").pattern("d").typed("ba").revert(0, NOT).extend('l', 1).leaves("old", "ld", "");
        run(name).text("old").typed("ba").revert(1, 2).typed("aa").revert(1, NOT).leaves("ab", "", "");
    }

    private static void revertOfEachPlaceOfNone() {
        String[] texts = {null, null, null, null, "banana", null, "nabana"};
        for (int k = 0; k <= 6; k++) {
            Run run = run("18: NONE before the k-th of annbaa, k = " + k).text("old").pattern("d").typed("annbaa");
            if (texts[k] == null) {
                run.revert(k, NOT).leaves("old", "d", "");
            } else {
                run.revert(k, 6).leaves(texts[k], "d", "");
            }
        }
    }

    private static void revertOfNinetySix() {
        String name = "18: 96 are typed";
        run(name).text("old").pattern("d").typed(ALIKE).revert(96, 96).leaves(ALIKE, "d", "");
        run(name).text("old").pattern("d").typed(ALIKE).revert(95, NOT).leaves("old", "d", "");
        run(name).text("old").pattern("d").typed(ALIKE).revert(0, NOT).leaves("old", "d", "");
        String columnOfRising = RISING.substring(95) + RISING.substring(0, 95);
        run(name).text(ALIKE).pattern("d").typed(columnOfRising).revert(1, 96).leaves(RISING, "d", "");
        run(name).text(ALIKE).pattern("d").typed(columnOfRising).revert(0, NOT).leaves(ALIKE, "d", "");
        run(name).text(ALIKE).pattern("d").typed(columnOfRising).revert(2, NOT).leaves(ALIKE, "d", "");
        run(name).text(ALIKE).pattern("d").typed(RISING).revert(96, 96).leaves(Rows.FALLING, "d", "");
        run(name).text(ALIKE).pattern("d").typed(RISING).revert(95, NOT).leaves(ALIKE, "d", "");
    }

    private static void revertOfLeastAndGreatestByte() {
        String name = "18: NONE is another one than byte 0 and byte 255";
        run(name).typed("\u0000").revert(1, 1).leaves("\u0000", "", "");
        run(name).typed("\u0000").revert(0, NOT).leaves("", "", "");
        run(name).typed("\u00ff").revert(1, 1).leaves("\u00ff", "", "");
        run(name).typed("\u00ff").revert(0, NOT).leaves("", "", "");
        run(name).typed("\u00ff\u0000").revert(1, 2).leaves("\u0000\u00ff", "", "");
        run(name).typed("\u0000\u00ff").revert(2, 2).leaves("\u00ff\u0000", "", "");
        run(name).typed("\u0080\u007f").revert(1, 2).leaves("\u007f\u0080", "", "");
        run(name).typed("\u007f\u0080").revert(1, NOT).leaves("", "", "");
    }

    /** An object is used for 512 calls: rows that never empty by themselves must not run full before. */
    private static void theLastOfAllCalls() {
        usedFor511().type(ONE_TO_EIGHT, 1, 3);
        usedFor511().build(2);
        usedFor511().size(96);
        usedFor511().at(95, 'x');
        usedFor511().at(96, BAD);
        usedFor511().suffix(96, 0);
        usedFor511().rank(0, 96);
        usedFor511().column(96, ColumnIndex.NONE);
        usedFor511().common(95, 95);
        usedFor511().moved(96, 1);
        usedFor511().distinct(96);
        usedFor511().repeat(128 * 95);
        usedFor511().seek(95);
        usedFor511().extend('x', 1);
        usedFor511().before(95);
        usedFor511().hit(1, 1);
        usedFor511().match(0, 95);
        usedFor511().revert(2, 2);
    }

    /** The text is 96 bytes x, the pattern 95 of them, and two more are typed. */
    private static Run usedFor511() {
        Run run = run("An object is used for at most 512 calls: the last of them");
        for (int round = 0; round < 9; round++) {
            run.typed(ALIKE).revert(96, 96).typed(ALIKE).build(96).typed(ALIKE).revert(1, NOT).typed(ALIKE).seek(1);
        }
        run.text(ALIKE).pattern(ALIKE.substring(1)).typed("xx");
        while (run.callsMade() < 511) {
            run.type(ONE_TO_EIGHT, 9, BAD);
        }
        return run;
    }
}
