/** Each promise of the document by itself: ordinary inputs, the edges it names, wrong inputs. */
public final class PromisesTest {
    private static final int BAD = ColumnIndex.BAD;
    private static final int NONE = ColumnIndex.NONE;
    private static final int FULL = ColumnIndex.FULL;
    private static final int NOT = ColumnIndex.NOT;
    private static final int[] NEVER_A_NUMBER = {-1, -2, 97, 98, 1 << 20, Integer.MAX_VALUE, Integer.MIN_VALUE};
    private static final String BANANA = "banana";
    private static final String FULL_ROW = "x".repeat(96);
    private static final Due due = new Due();

    private PromisesTest() {
    }

    public static void main(String[] args) {
        constants();
        promise1NewObject();
        promise2Type();
        promise3Build();
        promise4Size();
        promise5At();
        promise6Suffix();
        promise7Rank();
        promise8Column();
        promise9Common();
        promise10Moved();
        promise11Distinct();
        promise12Repeat();
        promise13Seek();
        promise14Extend();
        promise15Before();
        promise16Hit();
        promise17Match();
        promise18Revert();
        promise18RevertRefused();
        due.end();
    }

    private static void constants() {
        due.same("BAD", BAD, -1);
        due.same("NONE", NONE, -2);
        due.same("FULL", FULL, -3);
        due.same("NOT", NOT, -4);
    }

    private static void promise1NewObject() {
        due.same("1: size()", new ColumnIndex().size(), 0);
        due.same("1: at(0)", new ColumnIndex().at(0), BAD);
        due.same("1: suffix(0)", new ColumnIndex().suffix(0), 0);
        due.same("1: suffix(1)", new ColumnIndex().suffix(1), BAD);
        due.same("1: rank(0)", new ColumnIndex().rank(0), 0);
        due.same("1: column(0)", new ColumnIndex().column(0), NONE);
        due.same("1: column(1)", new ColumnIndex().column(1), BAD);
        due.same("1: common(0)", new ColumnIndex().common(0), BAD);
        due.same("1: moved(0)", new ColumnIndex().moved(0), 0);
        due.same("1: distinct()", new ColumnIndex().distinct(), 0);
        due.same("1: repeat()", new ColumnIndex().repeat(), 0);
        due.same("1: before()", new ColumnIndex().before(), 0);
        due.same("1: hit(0), the empty pattern", new ColumnIndex().hit(0), 0);
        due.same("1: hit(1)", new ColumnIndex().hit(1), BAD);
        due.same("1: match(0)", new ColumnIndex().match(0), 0);
        due.same("1: match(1)", new ColumnIndex().match(1), BAD);
        due.same("1: build(), nothing typed", new ColumnIndex().build(), 0);
        due.same("1: seek(), nothing typed", new ColumnIndex().seek(), 1);
        due.same("1: revert(0), nothing typed", new ColumnIndex().revert(0), 0);
        ColumnIndex one = Typing.built(BANANA);
        due.same("1: a second object has its own text", new ColumnIndex().size(), 0);
        due.same("1: and the first keeps its own", one.size(), 6);
    }

    private static void promise2Type() {
        ColumnIndex x = new ColumnIndex();
        due.same("2: type of 3", x.type(0x1122334455667788L, 3), 3);
        due.same("2: type of 1", x.type(0xff80L, 1), 4);
        due.same("2: type of 8", x.type(0xfedcba9876543210L, 8), 12);
        for (int n : new int[] {0, 9, -1, -8, 64, Integer.MIN_VALUE}) {
            due.same("2: type(0, " + n + ")", x.type(0, n), BAD);
        }
        due.refused("2: type of more than 8 and more than 96", x.type(0, Integer.MAX_VALUE));
        due.same("2: build()", x.build(), 12);
        int[] want = {0x66, 0x77, 0x88, 0x80, 0xfe, 0xdc, 0xba, 0x98, 0x76, 0x54, 0x32, 0x10};
        for (int place = 0; place < want.length; place++) {
            due.same("2: at(" + place + ")", x.at(place), want[place]);
        }
        promise2TypeFull();
    }

    private static void promise2TypeFull() {
        ColumnIndex x = new ColumnIndex();
        Typing.type(x, "x".repeat(93));
        due.same("2: type of 4 behind 93", x.type(0, 4), FULL);
        due.same("2: type of 8 behind 93", x.type(0, 8), FULL);
        due.refused("2: type of 9 behind 93", x.type(0, 9));
        due.same("2: type of 3 behind 93", x.type(0x616263, 3), 96);
        due.same("2: type of 1 behind 96", x.type(0, 1), FULL);
        due.same("2: n = 0 behind 96", x.type(0, 0), BAD);
        due.same("2: FULL types nothing", x.build(), 96);
        due.same("2: the last one typed", x.at(95), 'c');
        due.same("2: the third last one typed", x.at(93), 'a');
        due.same("2: there is room again", x.type(0, 8), 8);
    }

    private static void promise3Build() {
        ColumnIndex x = new ColumnIndex();
        due.same("3: build()", Typing.build(x, BANANA), 6);
        due.same("3: the pattern's places in the first text", Typing.seek(x, "an"), 2);
        due.same("3: build of another", Typing.build(x, "tan"), 3);
        due.same("3: the pattern stays", x.hit(0), 1);
        due.same("3: told of the new text", x.hit(1), BAD);
        due.same("3: before() of the new text", x.before(), 1);
        due.same("3: nothing is typed then", x.build(), 0);
        due.same("3: the empty text", x.size(), 0);
        due.same("3: has no other suffix", x.suffix(1), BAD);
        due.same("3: has no bytes", x.at(0), BAD);
        due.same("3: the pattern is still there", x.match(2), 0);
        due.same("3: and not longer", x.match(3), BAD);
        due.same("3: 96 bytes", Typing.build(x, FULL_ROW), 96);
    }

    private static void promise4Size() {
        ColumnIndex x = new ColumnIndex();
        Typing.type(x, BANANA);
        due.same("4: typed bytes are no text", x.size(), 0);
        x.build();
        due.same("4: size()", x.size(), 6);
        Typing.seek(x, "nan");
        due.same("4: size() with a pattern", x.size(), 6);
        Typing.build(x, FULL_ROW);
        due.same("4: size() of 96", x.size(), 96);
    }

    private static void promise5At() {
        ColumnIndex x = Typing.built("\u0000\u007f\u0080\u00ff");
        int[] want = {0, 127, 128, 255};
        for (int place = 0; place < want.length; place++) {
            due.same("5: at(" + place + ")", x.at(place), want[place]);
        }
        due.same("5: at(n)", x.at(4), BAD);
        for (int place : NEVER_A_NUMBER) {
            due.same("5: at(" + place + ")", x.at(place), BAD);
        }
        Typing.build(x, FULL_ROW);
        due.same("5: the last of 96", x.at(95), 'x');
        due.same("5: behind 96", x.at(96), BAD);
        Typing.build(x, "a");
        due.same("5: what an older text had there", x.at(1), BAD);
    }

    private static void promise6Suffix() {
        ColumnIndex x = Typing.built(BANANA);
        int[] want = {6, 5, 3, 1, 0, 4, 2};
        for (int rank = 0; rank < want.length; rank++) {
            due.same("6: suffix(" + rank + ")", x.suffix(rank), want[rank]);
        }
        due.same("6: suffix(n + 1)", x.suffix(7), BAD);
        for (int rank : NEVER_A_NUMBER) {
            due.same("6: suffix(" + rank + ")", x.suffix(rank), BAD);
        }
        Typing.build(x, "\u0080\u007f\u0000");
        due.same("6: bytes are not negative, rank 1", x.suffix(1), 2);
        due.same("6: bytes are not negative, rank 2", x.suffix(2), 1);
        due.same("6: bytes are not negative, rank 3", x.suffix(3), 0);
        Typing.build(x, "\u0000".repeat(96));
        for (int rank = 0; rank <= 96; rank++) {
            due.same("6: a beginning that is shorter is before, rank " + rank, x.suffix(rank), 96 - rank);
        }
        due.same("6: suffix(97)", x.suffix(97), BAD);
    }

    private static void promise7Rank() {
        ColumnIndex x = Typing.built(BANANA);
        int[] want = {4, 3, 6, 2, 5, 1, 0};
        for (int suffix = 0; suffix < want.length; suffix++) {
            due.same("7: rank(" + suffix + ")", x.rank(suffix), want[suffix]);
        }
        due.same("7: rank(n + 1)", x.rank(7), BAD);
        for (int suffix : NEVER_A_NUMBER) {
            due.same("7: rank(" + suffix + ")", x.rank(suffix), BAD);
        }
        Typing.build(x, FULL_ROW);
        due.same("7: rank(96)", x.rank(96), 0);
        due.same("7: rank(0) of 96 alike", x.rank(0), 96);
        due.same("7: rank(97)", x.rank(97), BAD);
    }

    private static void promise8Column() {
        ColumnIndex x = Typing.built(BANANA);
        int[] want = {'a', 'n', 'n', 'b', NONE, 'a', 'a'};
        for (int rank = 0; rank < want.length; rank++) {
            due.same("8: column(" + rank + ")", x.column(rank), want[rank]);
        }
        due.same("8: column(n + 1)", x.column(7), BAD);
        for (int rank : NEVER_A_NUMBER) {
            due.same("8: column(" + rank + ")", x.column(rank), BAD);
        }
        Typing.build(x, FULL_ROW);
        due.same("8: column(95) of 96 alike", x.column(95), 'x');
        due.same("8: column(96) of 96 alike", x.column(96), NONE);
        due.same("8: column(97)", x.column(97), BAD);
        x.build();
        due.same("8: column(0) of the empty text", x.column(0), NONE);
    }

    private static void promise9Common() {
        ColumnIndex x = Typing.built(BANANA);
        int[] want = {0, 1, 3, 0, 0, 2};
        for (int rank = 0; rank < want.length; rank++) {
            due.same("9: common(" + rank + ")", x.common(rank), want[rank]);
        }
        due.same("9: the last rank has no next one", x.common(6), BAD);
        for (int rank : NEVER_A_NUMBER) {
            due.same("9: common(" + rank + ")", x.common(rank), BAD);
        }
        Typing.build(x, FULL_ROW);
        due.same("9: common(95) of 96 alike", x.common(95), 95);
        due.same("9: common(96) of 96 alike", x.common(96), BAD);
        x.build();
        due.same("9: the empty text has no two", x.common(0), BAD);
    }

    private static void promise10Moved() {
        ColumnIndex x = Typing.built(BANANA);
        int[] want = {98, 111, 0, 100, 3, 3, 0};
        for (int rank = 0; rank < want.length; rank++) {
            due.same("10: moved(" + rank + ")", x.moved(rank), want[rank]);
        }
        due.same("10: moved(0) again", x.moved(0), 98);
        due.same("10: moved(n + 1)", x.moved(7), BAD);
        for (int rank : NEVER_A_NUMBER) {
            due.same("10: moved(" + rank + ")", x.moved(rank), BAD);
        }
        Typing.build(x, "\u00ff");
        due.same("10: the last of the list", x.moved(0), 256);
        due.same("10: NONE behind one", x.moved(1), 1);
        Typing.build(x, "\u0000");
        due.same("10: byte 0 is behind NONE", x.moved(0), 1);
        x.build();
        due.same("10: NONE is the first of the list", x.moved(0), 0);
    }

    private static void promise11Distinct() {
        due.same("11: distinct() of banana", Typing.built(BANANA).distinct(), 15);
        due.same("11: distinct() of one byte", Typing.built("\u0000").distinct(), 1);
        due.same("11: distinct() of abab", Typing.built("abab").distinct(), 7);
        due.same("11: distinct() of 96 alike", Typing.built(FULL_ROW).distinct(), 96);
        StringBuilder rising = new StringBuilder();
        for (int b = 160; b < 256; b++) {
            rising.append((char) b);
        }
        due.same("11: distinct() of 96 different", Typing.built(rising.toString()).distinct(), 96 * 97 / 2);
        due.same("11: distinct() of nothing", Typing.built("").distinct(), 0);
    }

    private static void promise12Repeat() {
        due.same("12: they may overlap", Typing.built(BANANA).repeat(), 128 * 3 + 1);
        due.same("12: no row twice", Typing.built("abc").repeat(), 0);
        due.same("12: one byte", Typing.built("a").repeat(), 0);
        due.same("12: nothing", Typing.built("").repeat(), 0);
        due.same("12: at place 0", Typing.built("aa").repeat(), 128);
        due.same("12: the least place of all so long", Typing.built("zqzqabab").repeat(), 128 * 2);
        due.same("12: the least place though later in the order", Typing.built("-zz+zz.aa,aa").repeat(), 128 * 2 + 1);
        due.same("12: the least place though earlier in the order", Typing.built("-aa+aa.zz,zz").repeat(), 128 * 2 + 1);
        due.same("12: the longest, not the first", Typing.built("aabcdbcd").repeat(), 128 * 3 + 2);
        due.same("12: the least of three places", Typing.built("-ab.ab,ab").repeat(), 128 * 2 + 1);
        due.same("12: 96 alike", Typing.built(FULL_ROW).repeat(), 128 * 95);
    }

    private static void promise13Seek() {
        ColumnIndex x = Typing.built(BANANA);
        due.same("13: seek of ana", Typing.seek(x, "ana"), 2);
        due.same("13: seek of a", Typing.seek(x, "a"), 3);
        due.same("13: seek of all", Typing.seek(x, BANANA), 1);
        due.same("13: seek of more than all", Typing.seek(x, "bananas"), 0);
        due.same("13: seek of what is not there", Typing.seek(x, "nn"), 0);
        due.same("13: nothing is typed then: an empty one at all n + 1", x.seek(), 7);
        due.same("13: the text stays", x.size(), 6);
        Typing.seek(x, "nan");
        due.same("13: nothing is typed for build then", x.build(), 0);
        due.same("13: the pattern has three bytes", x.match(4), BAD);
        due.same("13: seek in the empty text", Typing.seek(x, "a"), 0);
        Typing.build(x, FULL_ROW);
        due.same("13: 96 bytes in 96", Typing.seek(x, FULL_ROW), 1);
        due.same("13: 95 bytes in 96", Typing.seek(x, FULL_ROW.substring(1)), 2);
    }

    private static void promise14Extend() {
        ColumnIndex x = Typing.built(BANANA);
        due.same("14: a", x.extend('a'), 3);
        due.same("14: na", x.extend('n'), 2);
        for (int b : new int[] {-1, 256, -2, 353, Integer.MAX_VALUE, Integer.MIN_VALUE}) {
            due.same("14: extend(" + b + ")", x.extend(b), BAD);
        }
        due.same("14: ana", x.extend('a'), 2);
        due.same("14: where ana stands", x.hit(0), 1);
        Typing.type(x, "q");
        due.same("14: nana", x.extend('n'), 1);
        due.same("14: what is typed stays", x.type('q', 1), 2);
        due.same("14: bnana", x.extend('b'), 0);
        due.same("14: its length", x.match(5), 0);
        due.same("14: byte 0", x.extend(0), 0);
        due.same("14: byte 255", x.extend(255), 0);
        promise14ExtendFull();
    }

    private static void promise14ExtendFull() {
        ColumnIndex x = Typing.built(FULL_ROW);
        Typing.seek(x, FULL_ROW.substring(1));
        due.same("14: the 96th byte", x.extend('x'), 1);
        due.same("14: a 97th byte", x.extend('x'), FULL);
        due.same("14: a 97th that would not stand", x.extend('y'), FULL);
        due.refused("14: no byte, at 96", x.extend(256));
        due.same("14: FULL changes nothing", x.match(0), 96);
        due.same("14: FULL does not make it longer", x.match(97), BAD);
        due.same("14: it still stands at 0", x.hit(0), 0);
    }

    private static void promise15Before() {
        ColumnIndex x = Typing.built(BANANA);
        due.same("15: the empty pattern", x.before(), 0);
        String[] patterns = {"a", "an", "ana", "anab", "b", "banana", "bananas", "n", "na", "nanaa", "o", "\u0000", "\u00ff"};
        int[] want = {1, 2, 2, 3, 4, 4, 5, 5, 5, 7, 7, 1, 7};
        for (int i = 0; i < patterns.length; i++) {
            Typing.seek(x, patterns[i]);
            due.same("15: before() of " + patterns[i], x.before(), want[i]);
        }
        x.build();
        due.same("15: the empty suffix comes before it", x.before(), 1);
        Typing.build(x, "\u0080");
        Typing.seek(x, "\u007f");
        due.same("15: bytes are not negative", x.before(), 1);
    }

    private static void promise16Hit() {
        ColumnIndex x = Typing.built(BANANA);
        for (int place = 0; place <= 6; place++) {
            due.same("16: hit(" + place + ") of the empty pattern", x.hit(place), place);
        }
        due.same("16: hit(n + 1) of the empty pattern", x.hit(7), BAD);
        Typing.seek(x, "a");
        due.same("16: rising, 0", x.hit(0), 1);
        due.same("16: rising, 1", x.hit(1), 3);
        due.same("16: rising, 2", x.hit(2), 5);
        due.same("16: hit(3)", x.hit(3), BAD);
        for (int k : NEVER_A_NUMBER) {
            due.same("16: hit(" + k + ")", x.hit(k), BAD);
        }
        Typing.seek(x, "ab");
        due.same("16: it stands nowhere", x.hit(0), BAD);
        Typing.seek(x, "banana");
        due.same("16: the whole text", x.hit(0), 0);
    }

    private static void promise17Match() {
        ColumnIndex x = Typing.built(BANANA);
        Typing.seek(x, "xananbana");
        int[] want = {0, 4, 3, 2, 1, 4, 3, 2, 1, 0};
        for (int p = 0; p < want.length; p++) {
            due.same("17: match(" + p + ")", x.match(p), want[p]);
        }
        due.same("17: match behind its length", x.match(10), BAD);
        for (int p : NEVER_A_NUMBER) {
            due.same("17: match(" + p + ")", x.match(p), BAD);
        }
        x.build();
        due.same("17: the empty text", x.match(5), 0);
        x.seek();
        due.same("17: the empty pattern", x.match(0), 0);
        due.same("17: behind the empty pattern", x.match(1), BAD);
        Typing.build(x, FULL_ROW);
        Typing.seek(x, FULL_ROW);
        due.same("17: 96 bytes", x.match(0), 96);
        due.same("17: match(96)", x.match(96), 0);
        due.same("17: match(97)", x.match(97), BAD);
    }

    private static void promise18Revert() {
        ColumnIndex x = new ColumnIndex();
        Typing.seek(x, "ana");
        Typing.type(x, "annbaa");
        due.same("18: revert to banana", x.revert(4), 6);
        for (int place = 0; place < 6; place++) {
            due.same("18: at(" + place + ")", x.at(place), BANANA.charAt(place));
        }
        due.same("18: its order", x.suffix(4), 0);
        due.same("18: its column", x.column(3), 'b');
        due.same("18: its numbers", x.moved(3), 100);
        due.same("18: its longest row twice", x.repeat(), 128 * 3 + 1);
        due.same("18: the pattern stays", x.hit(1), 3);
        due.same("18: nothing is typed then: the empty text", x.revert(0), 0);
        due.same("18: the empty text's size", x.size(), 0);
        Typing.type(x, FULL_ROW);
        due.same("18: 96 alike, NONE last", x.revert(96), 96);
        due.same("18: 96 alike, their order", x.suffix(96), 0);
        x.type(0, 1);
        due.same("18: NONE is not byte 0", x.revert(1), 1);
        due.same("18: byte 0 of the text", x.at(0), 0);
    }

    private static void promise18RevertRefused() {
        ColumnIndex x = Typing.built(BANANA);
        Typing.type(x, "aa");
        for (int k : new int[] {-1, 3, 97, Integer.MAX_VALUE, Integer.MIN_VALUE}) {
            due.same("18: revert(" + k + ") of two", x.revert(k), BAD);
        }
        due.same("18: BAD lets the typed ones be", x.type('a', 1), 3);
        due.same("18: NONE at rank 0 of more than one", x.revert(0), NOT);
        due.same("18: the text stays", x.size(), 6);
        due.same("18: its first byte, too", x.at(0), 'b');
        due.same("18: and its order", x.suffix(1), 5);
        due.same("18: and its column", x.column(6), 'a');
        due.same("18: nothing is typed after NOT", x.type('a', 1), 1);
        due.same("18: one byte", x.revert(1), 1);
        Typing.type(x, "ab");
        due.same("18: b by itself makes a ring", x.revert(1), NOT);
        Typing.type(x, "ba");
        due.same("18: the column of ab", x.revert(1), 2);
        due.same("18: the first byte of ab", x.at(0), 'a');
        Typing.type(x, FULL_ROW);
        due.same("18: 96 alike, NONE last but one", x.revert(95), NOT);
        due.same("18: 96 are not typed any more", x.type(0, 8), 8);
    }
}
