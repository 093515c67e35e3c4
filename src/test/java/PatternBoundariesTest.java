/**
 * The sentences of promises 13 to 17 that name a boundary, and those of the terms that they use:
 * each with cases on both its sides, and with what the call leaves behind.
 */
public final class PatternBoundariesTest {
    private static final int BAD = ColumnIndex.BAD;
    private static final int FULL = ColumnIndex.FULL;
    private static final int NOT = ColumnIndex.NOT;
    private static final String ALIKE = Rows.ALIKE;
    private static final String RISING = Rows.RISING;
    private static final Due due = new Due();

    private PatternBoundariesTest() {
    }

    public static void main(String[] args) {
        anEmptyPatternStandsEverywhere();
        seekLeavesNothingTyped();
        seekOfWhatStandsNowhere();
        aPatternStandsUpToTheEndOfTheText();
        seekOfNinetySix();
        extendByLeastAndGreatestByte();
        extendByNoByteIsBad();
        extendUpToNinetySix();
        extendBeyondNinetySixIsFull();
        extendAfterFull();
        extendCountsThen();
        beforeOfTheEmptyPattern();
        beforeOfASuffixItself();
        beforeOfALessAndAGreaterByte();
        beforeOfAllSuffixes();
        hitFirstAndLast();
        hitOutsideIsBad();
        hitRises();
        matchFirstAndLast();
        matchOutsideIsBad();
        matchOfNothingAndOfAll();
        matchEndsWithTheText();
        patternStaysThroughOtherCalls();
        askingChangesNothing();
        due.end();
    }

    private static Run run(String sentence) {
        return new Run(due, sentence);
    }

    private static void anEmptyPatternStandsEverywhere() {
        String name = "13: an empty one at all n + 1";
        run(name).seek(1).hit(0, 0).hit(1, BAD).before(0);
        run(name).text("a").seek(2).hit(0, 0).hit(1, 1).hit(2, BAD).before(0);
        run(name).text("banana").seek(7).hit(0, 0).hit(6, 6).hit(7, BAD).before(0);
        run(name).text(ALIKE).seek(97).hit(0, 0).hit(96, 96).hit(97, BAD).before(0);
        run(name).text("banana").pattern("an").seek(7).leaves("banana", "", "");
        run(name).text("banana").pattern(RISING).seek(7).leaves("banana", "", "");
        run(name).text("banana").typed("a").seek(3).leaves("banana", "a", "");
    }

    private static void seekLeavesNothingTyped() {
        String name = "13: nothing is typed then";
        run(name).text("banana").typed("an").seek(2).seek(7).leaves("banana", "", "");
        run(name).text("banana").typed("an").seek(2).build(0).leaves("", "an", "");
        run(name).text("banana").typed("an").seek(2).revert(1, BAD).leaves("banana", "an", "");
        run(name).text("banana").typed("an").seek(2).revert(0, 0).leaves("", "an", "");
        run(name).text("banana").typed("an").seek(2).type('s', 1, 1).leaves("banana", "an", "s");
        run(name).text("banana").typed("an").seek(2).typed("n").seek(2).leaves("banana", "n", "");
    }

    private static void seekOfWhatStandsNowhere() {
        String name = "13: at how many places it stands: none";
        run(name).typed("a").seek(0).leaves("", "a", "");
        run(name).typed(RISING).seek(0).leaves("", RISING, "");
        run(name).text("banana").typed("nn").seek(0).leaves("banana", "nn", "");
        run(name).text("banana").typed("\u0000").seek(0).leaves("banana", "\u0000", "");
        run(name).text("banana").typed("\u00ff").seek(0).leaves("banana", "\u00ff", "");
        run(name).text("banana").pattern("an").typed("nn").seek(0).leaves("banana", "nn", "");
    }

    private static void aPatternStandsUpToTheEndOfTheText() {
        String name = "STANDS at place p (0 .. n) if suffix p begins with it";
        run(name).text("banana").typed("banana").seek(1).hit(0, 0).leaves("banana", "banana", "");
        run(name).text("banana").typed("bananaa").seek(0).hit(0, BAD).leaves("banana", "bananaa", "");
        run(name).text("banana").typed("bananab").seek(0).leaves("banana", "bananab", "");
        run(name).text("banana").typed("ana").seek(2).hit(1, 3).hit(2, BAD);
        run(name).text("banana").typed("anan").seek(1).hit(0, 1).hit(1, BAD);
        run(name).text("banana").typed("a\u0000").seek(0).leaves("banana", "a\u0000", "");
        run(name).text("a\u0000").typed("\u0000").seek(1).hit(0, 1);
        run(name).text("a\u0000").typed("\u0000\u0000").seek(0).hit(0, BAD);
        // The older, longer text ends otherwise: its bytes behind the new one's end are none of it.
        run(name).text("banana").text("ban").typed("bana").seek(0).leaves("ban", "bana", "");
    }

    private static void seekOfNinetySix() {
        String name = "THE PATTERN is a row of at most 96 bytes";
        run(name).text(ALIKE).typed(ALIKE).seek(1).hit(0, 0).hit(1, BAD).leaves(ALIKE, ALIKE, "");
        run(name).text(ALIKE).typed(ALIKE.substring(1)).seek(2).hit(1, 1).hit(2, BAD);
        run(name).text(ALIKE.substring(1)).typed(ALIKE).seek(0).leaves(ALIKE.substring(1), ALIKE, "");
        run(name).text(RISING).typed(RISING).seek(1).leaves(RISING, RISING, "");
        run(name).text(RISING).typed(RISING.substring(0, 95) + "x").seek(0);
        run(name).text(RISING).typed(RISING).type(0, 1, FULL).seek(1).leaves(RISING, RISING, "");
        run(name).text(RISING).pattern(RISING).typed("x").seek(0).leaves(RISING, "x", "");
    }

    private static void extendByLeastAndGreatestByte() {
        String name = "14: b is a byte";
        run(name).text("\u0000\u00ff").extend(0, 1).leaves("\u0000\u00ff", "\u0000", "");
        run(name).text("\u0000\u00ff").extend(255, 1).leaves("\u0000\u00ff", "\u00ff", "");
        run(name).text("\u0000\u00ff").extend(255, 1).extend(0, 1).hit(0, 0).leaves("\u0000\u00ff", "\u0000\u00ff", "");
        run(name).text("\u0000\u00ff").extend(0, 1).extend(255, 0).hit(0, BAD).leaves("\u0000\u00ff", "\u00ff\u0000", "");
        run(name).text("\u007f\u0080").extend(127, 1).leaves("\u007f\u0080", "\u007f", "");
        run(name).text("\u007f\u0080").extend(128, 1).leaves("\u007f\u0080", "\u0080", "");
    }

    private static void extendByNoByteIsBad() {
        Run empty = run("14: BAD when b is no byte, the pattern is empty").text("\u0000\u00ff").typed("typed");
        Run some = run("14: BAD when b is no byte, the pattern is not empty").text("banana").pattern("an").typed("typed");
        for (int b : Outside.of(0, 255)) {
            empty.extend(b, BAD);
            some.extend(b, BAD);
        }
        // Such as would be bytes of the text if their higher bits were lost.
        some.extend(256 + 'b', BAD).extend('b' - 256, BAD).extend(65536 + 'b', BAD).extend(-'b', BAD);
        empty.leaves("\u0000\u00ff", "", "typed").extend(0, 1);
        some.leaves("banana", "an", "typed").extend('b', 1).leaves("banana", "ban", "typed");
    }

    private static void extendUpToNinetySix() {
        String name = "14: it has less than 96 bytes";
        run(name).text(ALIKE).pattern(ALIKE.substring(2)).extend('x', 2).extend('x', 1).leaves(ALIKE, ALIKE, "");
        run(name).text(ALIKE).pattern(ALIKE.substring(1)).extend('y', 0).leaves(ALIKE, "y" + ALIKE.substring(1), "");
        run(name).text(RISING).pattern(RISING.substring(1)).extend(160, 1).leaves(RISING, RISING, "");
        run(name).pattern(RISING.substring(1)).extend(160, 0).leaves("", RISING, "");
        Run byteByByte = run(name).text(ALIKE);
        for (int length = 1; length <= 96; length++) {
            byteByByte.extend('x', 97 - length);
        }
        byteByByte.extend('x', FULL).leaves(ALIKE, ALIKE, "");
    }

    private static void extendBeyondNinetySixIsFull() {
        String name = "14: FULL (nothing changes) when it has 96 bytes";
        run(name).text(ALIKE).pattern(ALIKE).typed("typed").extend('x', FULL).leaves(ALIKE, ALIKE, "typed");
        run(name).text(ALIKE).pattern(ALIKE).typed("typed").extend('y', FULL).leaves(ALIKE, ALIKE, "typed");
        run(name).text(RISING).pattern(RISING).typed(ALIKE).extend(0, FULL).leaves(RISING, RISING, ALIKE);
        run(name).text(RISING).pattern(RISING).typed(ALIKE).extend(255, FULL).leaves(RISING, RISING, ALIKE);
        run(name).pattern(RISING).extend(160, FULL).leaves("", RISING, "");
        run("14: BAD or FULL when b is no byte and it has 96 bytes").text(RISING).pattern(RISING)
                .extendRefused(256).extendRefused(-1).leaves(RISING, RISING, "");
    }

    private static void extendAfterFull() {
        String name = "14: there is room again in another pattern";
        run(name).text(ALIKE).pattern(ALIKE).extend('x', FULL).typed("x").seek(96).extend('x', 95).leaves(ALIKE, "xx", "");
        run(name).text(ALIKE).pattern(ALIKE).extend('x', FULL).seek(97).extend('x', 96).leaves(ALIKE, "x", "");
        run(name).text("xx").pattern(ALIKE).extend('x', FULL).text(ALIKE).extend('x', FULL).leaves(ALIKE, ALIKE, "");
    }

    private static void extendCountsThen() {
        String name = "14: at how many places it stands then";
        run(name).extend('a', 0).leaves("", "a", "");
        run(name).text("banana").extend('a', 3).extend('n', 2).extend('a', 2).extend('n', 1).extend('a', 1).extend('b', 1)
                .hit(0, 0).extend('b', 0).hit(0, BAD).leaves("banana", "bbanana", "");
        run(name).text("banana").pattern("x").extend('a', 0).extend('n', 0).leaves("banana", "nax", "");
        run(name).text("banana").typed("typed").extend('a', 3).leaves("banana", "a", "typed");
        run(name).text("banana").pattern("na").extend('a', 2).extend(256, BAD).extend('b', 1).leaves("banana", "bana", "");
    }

    private static void beforeOfTheEmptyPattern() {
        String name = "15: How many suffixes come before the empty pattern";
        run(name).before(0).leaves("", "", "");
        run(name).text("a").before(0);
        run(name).text("\u0000").before(0);
        run(name).text(ALIKE).before(0).leaves(ALIKE, "", "");
        run(name).text("banana").pattern("an").before(2).seek(7).before(0);
    }

    private static void beforeOfASuffixItself() {
        String name = "15: a suffix does not come before itself, nor before its beginning";
        run(name).text("banana").pattern("a").before(1).pattern("ana").before(2).pattern("anana").before(3)
                .pattern("banana").before(4).pattern("na").before(5).pattern("nana").before(6);
        run(name).text("banana").pattern("an").before(2).pattern("anan").before(3).pattern("b").before(4)
                .pattern("n").before(5).pattern("nan").before(6);
        run(name).text("banana").pattern("aa").before(2).pattern("anaa").before(3).pattern("bananaa").before(5)
                .pattern("a\u0000").before(2).pattern("nanaa").before(7);
        run(name).text(ALIKE).pattern(ALIKE).before(96).pattern(ALIKE.substring(1)).before(95);
    }

    private static void beforeOfALessAndAGreaterByte() {
        String name = "15: by the byte of the first place in which they differ";
        run(name).text("\u007f").pattern("\u0080").before(2);
        run(name).text("\u0080").pattern("\u007f").before(1);
        run(name).text("\u0000").pattern("\u00ff").before(2);
        run(name).text("\u00ff").pattern("\u0000").before(1);
        run(name).text("banana").pattern("amz").before(2).pattern("ao").before(4).pattern("bb").before(5)
                .pattern("m").before(5).pattern("o").before(7);
    }

    private static void beforeOfAllSuffixes() {
        String name = "15: none but the empty suffix comes before it, and all come before it";
        run(name).pattern("\u0000").before(1).leaves("", "\u0000", "");
        run(name).pattern("\u00ff").before(1).leaves("", "\u00ff", "");
        run(name).text("banana").pattern("\u0000").before(1);
        run(name).text("banana").pattern("\u00ff").before(7);
        run(name).text(RISING).pattern("\u0000").before(1);
        run(name).text(RISING).pattern("\u00ff").before(96).pattern("\u00ff\u0000").before(97).leaves(RISING, "\u00ff\u0000", "");
        run(name).text(ALIKE).pattern("w").before(1).pattern("y").before(97);
        run(name).text(ALIKE).pattern("y" + ALIKE.substring(1)).before(97);
        run(name).text(ALIKE.substring(1)).pattern(ALIKE).before(96);
    }

    private static void hitFirstAndLast() {
        String name = "16: The k-th place (from 0, rising) at which the pattern stands";
        run(name).hit(-1, BAD).hit(0, 0).hit(1, BAD);
        run(name).text("banana").pattern("ana").hit(-1, BAD).hit(0, 1).hit(1, 3).hit(2, BAD);
        run(name).text("banana").pattern("b").hit(-1, BAD).hit(0, 0).hit(1, BAD);
        run(name).text("banana").pattern("nn").hit(-1, BAD).hit(0, BAD).hit(1, BAD);
        run(name).text(ALIKE).pattern("x").hit(-1, BAD).hit(0, 0).hit(95, 95).hit(96, BAD);
        run(name).text(ALIKE).hit(-1, BAD).hit(0, 0).hit(96, 96).hit(97, BAD);
        run(name).text(ALIKE).pattern(ALIKE).hit(-1, BAD).hit(0, 0).hit(1, BAD);
    }

    private static void hitOutsideIsBad() {
        hitsOutside("", "", 1);
        hitsOutside("", "a", 0);
        hitsOutside("banana", "", 7);
        hitsOutside("banana", "a", 3);
        hitsOutside("banana", "nn", 0);
        hitsOutside(ALIKE, "x", 96);
        hitsOutside(ALIKE, ALIKE, 1);
        hitsOutside(ALIKE, RISING, 0);
    }

    private static void hitsOutside(String text, String pattern, int count) {
        Run run = run("16: BAD when there is none, of " + count).text(text).typed(pattern).seek(count).typed("typed");
        for (int k : Outside.of(0, count - 1)) {
            run.hit(k, BAD);
        }
        run.leaves(text, pattern, "typed");
    }

    private static void hitRises() {
        String name = "16: rising, though the order of the suffixes is another one";
        run(name).text("banana").pattern("a").hit(0, 1).hit(1, 3).hit(2, 5).hit(3, BAD);
        run(name).text("azabac").pattern("a").hit(0, 0).hit(1, 2).hit(2, 4).hit(3, BAD);
        run(name).text("banana").pattern("a").hit(2, 5).hit(0, 1).hit(1, 3);
    }

    private static void matchFirstAndLast() {
        String name = "17: p is 0 .. its length (there it is 0)";
        run(name).match(-1, BAD).match(0, 0).match(1, BAD);
        run(name).text("a").pattern("a").match(-1, BAD).match(0, 1).match(1, 0).match(2, BAD);
        run(name).text("banana").match(-1, BAD).match(0, 0).match(1, BAD);
        run(name).text("banana").pattern("ana").match(-1, BAD).match(0, 3).match(2, 1).match(3, 0).match(4, BAD);
        run(name).text(ALIKE).pattern(ALIKE).match(-1, BAD).match(0, 96).match(95, 1).match(96, 0).match(97, BAD);
        run(name).pattern(RISING).match(-1, BAD).match(0, 0).match(96, 0).match(97, BAD);
        run(name).text("banana").pattern("an").extend('n', 1).match(3, 0).match(4, BAD);
        run(name).text("banana").pattern("banana").pattern("an").match(2, 0).match(3, BAD);
    }

    private static void matchOutsideIsBad() {
        for (String pattern : new String[] {"", "a", "ana", ALIKE.substring(1), ALIKE}) {
            Run run = run("17: BAD when p is not 0 .. " + pattern.length()).text("banana").pattern(pattern).typed("typed");
            for (int p : Outside.of(0, pattern.length())) {
                run.match(p, BAD);
            }
            run.leaves("banana", pattern, "typed");
        }
    }

    private static void matchOfNothingAndOfAll() {
        String name = "17: stand in the text as one row at most";
        run(name).text("banana").pattern("xan").match(0, 0).match(1, 2).match(2, 1).match(3, 0);
        run(name).text("banana").pattern("anx").match(0, 2).match(1, 1).match(2, 0).match(3, 0);
        run(name).text("banana").pattern("banana").match(0, 6).match(5, 1).match(6, 0).match(7, BAD);
        run(name).text("anban").pattern("anan").match(0, 2).match(1, 1).match(2, 2);
        run(name).text("abcab").pattern("abcabc").match(0, 5).match(1, 4).match(2, 3).match(3, 3);
        run(name).text("\u0000").pattern("\u0000\u0000").match(0, 1).match(1, 1).match(2, 0);
        run(name).text(RISING).pattern(RISING).match(0, 96).match(1, 95).match(95, 1).match(96, 0);
    }

    private static void matchEndsWithTheText() {
        String name = "17: no longer than the rest of the text";
        run(name).pattern("a").match(0, 0).match(1, 0).match(2, BAD);
        run(name).text("ban").pattern("banana").match(0, 3).match(3, 2).match(6, 0);
        run(name).text("banana").text("ban").pattern("banana").match(0, 3).match(1, 2);
        run(name).text("x").pattern(ALIKE).match(0, 1).match(95, 1).match(96, 0).match(97, BAD);
        run(name).text(ALIKE.substring(1)).pattern(ALIKE).match(0, 95).match(1, 95).match(2, 94);
        run(name).text("na").pattern("na\u0000").match(0, 2).match(1, 1).match(2, 0);
    }

    private static void patternStaysThroughOtherCalls() {
        String name = "13: the pattern is another one after seek and extend alone";
        run(name).text("banana").pattern("an").type(0, 9, BAD).leaves("banana", "an", "");
        run(name).text("banana").pattern("an").typed(ALIKE).type(0, 1, FULL).leaves("banana", "an", ALIKE);
        run(name).text("banana").pattern("an").typed("ba").revert(1, 2).leaves("ab", "an", "");
        run(name).text("banana").pattern("an").typed("ba").revert(2, NOT).leaves("banana", "an", "");
        run(name).text("banana").pattern("an").typed("ba").revert(3, BAD).leaves("banana", "an", "ba");
        run(name).text("banana").pattern("an").text("nab").leaves("nab", "an", "");
    }

    private static void askingChangesNothing() {
        for (String pattern : new String[] {"", "an", "nn", ALIKE}) {
            Run run = run("15 to 17: no state change is described").text("banana").pattern(pattern).typed("typed");
            Model m = new Model("banana", pattern, "typed");
            for (int i : new int[] {0, 1, 2, pattern.length(), pattern.length() + 1, -1, 0}) {
                run.before(m.before()).hit(i, m.hit(i)).match(i, m.match(i));
            }
            run.leaves("banana", pattern, "typed");
        }
    }
}
