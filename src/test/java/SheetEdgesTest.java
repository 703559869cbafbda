/** The boundary cases of "Terms" part 4, and of promises 21 to 27: sheets, and what is read from them. */
public final class SheetEdgesTest {
    private static final Check CHECK = new Check("SheetEdgesTest");
    private static final String FOUR = "xp11,p29,p31,p49;02;02";
    private static final int LEAST = Integer.MIN_VALUE, MOST = Integer.MAX_VALUE;
    private static final int BAD = -1, NOT = -2, NONE = -4, NULL = -11, CAST = -12, INDEX = -13, SIZE = -14;

    private static void due(String call, long got, long want) {
        CHECK.due(call, got, want);
    }

    public static void main(String[] args) {
        nothingAtFirst();
        sheetOfEachLength();
        sheetRefused();
        sheetHoldsANewRow();
        dropEdges();
        itemOfEachLane();
        itemAtEachEnd();
        itemRefused();
        copyAtTheEnds();
        copyOfNone();
        copyOverItself();
        copyRefused();
        logAtTheEnds();
        logStepByStep();
        logLeavesTheRest();
        logRefused();
        foldingsOfEachRing();
        foldingsOfZeroToEight();
        foldingsAmong();
        foldingsTry();
        foldingsNothingTorn();
        foldingsRefused();
        foldingsNot();
        foldingsOfLongs();
        kindsOfOneToTen();
        kindsShown();
        kindsTry();
        kindsRefused();
        kindsWithoutStrip();
        CHECK.end();
    }

    private static void nothingAtFirst() {
        CHECK.says("SHEETS 0 .. 3: nothing (at first)");
        FlexedFaces x = Check.of(FOUR);
        for (int sheet = 0; sheet < 4; sheet++) {
            for (int lane = 0; lane < 4; lane++) {
                due("item", x.item(sheet, lane, 0, 1), NULL);
                due("log", x.log(sheet, lane, 0, 1), NULL);
                due("foldings", x.foldings(sheet, lane, 0, 0, 0), NULL);
                due("kinds", x.kinds(sheet, lane, 0, 1, 0), NULL);
            }
            due("copy", x.copy(sheet, 0, sheet, 0, 0), NULL);
            due("drop", x.drop(sheet), NULL);
        }
    }

    private static void sheetOfEachLength() {
        CHECK.says("a row of a LANE: 0 bytes, 1 shorts, 2 ints, 3 longs, of 0 to 24 items");
        for (int sheet = 0; sheet < 4; sheet++) {
            for (int lane = 0; lane < 4; lane++) {
                FlexedFaces x = new FlexedFaces();
                for (int n = 0; n <= 24; n++) {
                    due("sheet(" + sheet + ", " + lane + ", " + n + ")", x.sheet(sheet, lane, n), n);
                    due("item 0", x.item(sheet, lane, 0, 5), n == 0 ? INDEX : 5);
                    due("item " + (n - 1), x.item(sheet, lane, n - 1, 5), n == 0 ? INDEX : 5);
                    due("item " + n, x.item(sheet, lane, n, 5), INDEX);
                }
                due("drop", x.drop(sheet), 24);
            }
        }
    }

    private static void sheetRefused() {
        CHECK.says("BAD: also n above 24; SIZE: n below 0.");
        FlexedFaces x = new FlexedFaces();
        due("n 24", x.sheet(0, 0, 24), 24);
        due("n 25", x.sheet(0, 1, 25), BAD);
        due("n most", x.sheet(0, 1, MOST), BAD);
        due("n 0", x.sheet(1, 0, 0), 0);
        due("n -1", x.sheet(1, 1, -1), SIZE);
        due("n least", x.sheet(1, 1, LEAST), SIZE);
        due("SHEET -1", x.sheet(-1, 0, 1), BAD);
        due("SHEET 4", x.sheet(4, 0, 1), BAD);
        due("SHEET least", x.sheet(LEAST, 0, 1), BAD);
        due("SHEET most", x.sheet(MOST, 0, 1), BAD);
        due("LANE -1", x.sheet(0, -1, 1), BAD);
        due("LANE 4", x.sheet(0, 4, 1), BAD);
        due("LANE least", x.sheet(0, LEAST, 1), BAD);
        due("LANE most", x.sheet(0, MOST, 1), BAD);
        due("SHEET 4, n -1: BAD comes ahead of SIZE", x.sheet(4, 0, -1), BAD);
        due("SHEET -1, n -1: BAD comes ahead of SIZE", x.sheet(-1, 0, -1), BAD);
        due("LANE 4, n -1: BAD comes ahead of SIZE", x.sheet(0, 4, -1), BAD);
        due("LANE -1, n least: BAD comes ahead of SIZE", x.sheet(0, -1, LEAST), BAD);
        due("the row stays", x.item(0, 0, 23, 1), 1);
        due("the empty row stays", x.drop(1), 0);
        due("what was refused made no row", x.drop(2), NULL);
    }

    private static void sheetHoldsANewRow() {
        CHECK.says("A SHEET holds a new row of a LANE, of n items 0: n.");
        FlexedFaces x = new FlexedFaces();
        for (int lane = 0; lane < 4; lane++) {
            x.sheet(0, lane, 24);
            for (int i = 0; i < 24; i++) {
                x.item(0, lane, i, 4);
            }
            x.sheet(0, lane, 24);
            for (int i = 0; i < 23; i++) {
                // SHOWN 0 and EFFORT 4 would be two KINDS, 4 and 4 one
                due("items " + i + ", 0 and 0", x.kinds(0, lane, i, 1, 0), 0);
                x.item(0, lane, i + 1, 4);
                due("items " + i + ", 0 and 4", x.kinds(0, lane, i, 1, 0), 48);
                x.item(0, lane, i + 1, 0);
            }
        }
    }

    private static void dropEdges() {
        CHECK.says("A SHEET holds nothing: how many items it had. BAD; NULL.");
        FlexedFaces x = new FlexedFaces();
        due("drop(-1)", x.drop(-1), BAD);
        due("drop(4)", x.drop(4), BAD);
        due("drop(least)", x.drop(LEAST), BAD);
        due("drop(most)", x.drop(MOST), BAD);
        for (int sheet = 0; sheet < 4; sheet++) {
            due("drop(" + sheet + "), nothing", x.drop(sheet), NULL);
            x.sheet(sheet, 3, sheet * 8);
        }
        for (int sheet = 0; sheet < 4; sheet++) {
            due("drop(" + sheet + ")", x.drop(sheet), sheet * 8);
            due("drop(" + sheet + ") again", x.drop(sheet), NULL);
            due("item of nothing", x.item(sheet, 3, 0, 1), NULL);
        }
    }

    private static void lane(int lane, long v, long want) {
        FlexedFaces x = new FlexedFaces();
        x.sheet(0, lane, 1);
        due("LANE " + lane + ", item " + v, x.item(0, lane, 0, v), want);
    }

    private static void itemOfEachLane() {
        CHECK.says("becomes v, its lowest bits: what it is then");
        lane(0, 127, 127);
        lane(0, 128, -128);
        lane(0, 255, -1);
        lane(0, 256, 0);
        lane(0, -128, -128);
        lane(0, -129, 127);
        lane(0, Long.MAX_VALUE, -1);
        lane(0, Long.MIN_VALUE, 0);
        lane(1, 32767, 32767);
        lane(1, 32768, -32768);
        lane(1, 65535, -1);
        lane(1, 65536, 0);
        lane(1, -32768, -32768);
        lane(1, -32769, 32767);
        lane(1, Long.MAX_VALUE, -1);
        lane(2, 2147483647L, 2147483647L);
        lane(2, 2147483648L, -2147483648L);
        lane(2, 4294967295L, -1);
        lane(2, 4294967296L, 0);
        lane(2, -2147483648L, -2147483648L);
        lane(2, -2147483649L, 2147483647L);
        lane(2, Long.MIN_VALUE, 0);
        lane(3, Long.MAX_VALUE, Long.MAX_VALUE);
        lane(3, Long.MIN_VALUE, Long.MIN_VALUE);
        lane(3, 4294967296L, 4294967296L);
        lane(3, -1, -1);
    }

    private static void itemAtEachEnd() {
        CHECK.says("Item i of a SHEET .. INDEX.");
        FlexedFaces x = new FlexedFaces();
        x.sheet(3, 3, 24);
        due("i 0", x.item(3, 3, 0, 7), 7);
        due("i 23", x.item(3, 3, 23, 8), 8);
        due("i 24", x.item(3, 3, 24, 9), INDEX);
        due("i -1", x.item(3, 3, -1, 9), INDEX);
        due("i least", x.item(3, 3, LEAST, 9), INDEX);
        due("i most", x.item(3, 3, MOST, 9), INDEX);
        x.sheet(3, 3, 0);
        due("i 0 of an empty row", x.item(3, 3, 0, 9), INDEX);
    }

    private static void itemRefused() {
        CHECK.says("BAD; NULL; CAST; INDEX.");
        FlexedFaces x = new FlexedFaces();
        x.sheet(0, 0, 2);
        due("SHEET -1", x.item(-1, 0, 0, 1), BAD);
        due("SHEET 4", x.item(4, 0, 0, 1), BAD);
        due("SHEET most", x.item(MOST, 0, 0, 1), BAD);
        due("LANE -1", x.item(0, -1, 0, 1), BAD);
        due("LANE 4", x.item(0, 4, 0, 1), BAD);
        due("LANE least", x.item(0, LEAST, 0, 1), BAD);
        due("LANE 4 of nothing: BAD comes ahead of NULL", x.item(1, 4, 0, 1), BAD);
        due("LANE -1, i 2: BAD comes ahead of INDEX", x.item(0, -1, 2, 1), BAD);
        due("nothing, i -1: NULL comes ahead of INDEX", x.item(1, 0, -1, 1), NULL);
        for (int lane = 1; lane < 4; lane++) {
            due("LANE " + lane + " of bytes", x.item(0, lane, 0, 1), CAST);
            due("LANE " + lane + " of bytes, i 2: CAST comes ahead of INDEX", x.item(0, lane, 2, 1), CAST);
        }
        due("i 2", x.item(0, 0, 2, 1), INDEX);
    }

    /** An item 1, 2, 3 or 4 (else 0): taken as the EFFORT of what was SHOWN once it tells one set each. */
    private static int read(FlexedFaces x, int sheet, int lane, int i) {
        Check.fill(x, 3, lane, 1, 0);
        x.copy(sheet, i, 3, 1, 1);
        switch (x.kinds(3, lane, 0, 1, 0)) {
            case 4: return 1;
            case 10: return 2;
            case 32: return 3;
            case 16: return 4;
            default: return 0;
        }
    }

    private static void items(FlexedFaces x, int sheet, int lane, int... want) {
        for (int i = 0; i < want.length; i++) {
            due("item " + i + " of SHEET " + sheet, read(x, sheet, lane, i), want[i]);
        }
    }

    private static void copyAtTheEnds() {
        CHECK.says("n items of a SHEET from i on come to another one (or the same) from j on");
        FlexedFaces x = new FlexedFaces();
        Check.fill(x, 0, 1, 1, 2, 3, 4);
        x.sheet(1, 1, 3);
        due("the last three", x.copy(0, 1, 1, 0, 3), 3);
        items(x, 1, 1, 2, 3, 4);
        due("one too many to take", x.copy(0, 2, 0, 0, 3), INDEX);
        due("one too many to put", x.copy(0, 0, 1, 0, 4), INDEX);
        due("one too far to put", x.copy(0, 0, 1, 1, 3), INDEX);
        due("to the last place", x.copy(0, 0, 1, 2, 1), 1);
        items(x, 1, 1, 2, 3, 1);
        items(x, 0, 1, 1, 2, 3, 4);
        FlexedFaces y = new FlexedFaces();
        y.sheet(0, 3, 24);
        y.sheet(1, 3, 24);
        due("all 24", y.copy(0, 0, 1, 0, 24), 24);
        due("all 24, to itself", y.copy(0, 0, 0, 0, 24), 24);
        due("25", y.copy(0, 0, 1, 0, 25), INDEX);
    }

    private static void copyOfNone() {
        CHECK.says("INDEX (n below 0, too)");
        FlexedFaces x = new FlexedFaces();
        Check.fill(x, 0, 1, 1, 2, 3, 4);
        x.sheet(1, 1, 0);
        due("n 0", x.copy(0, 0, 0, 0, 0), 0);
        due("n 0 at the end", x.copy(0, 4, 1, 0, 0), 0);
        due("n 0 of an empty row", x.copy(1, 0, 1, 0, 0), 0);
        due("n 0 behind the end, i", x.copy(0, 5, 1, 0, 0), INDEX);
        due("n 0 behind the end, j", x.copy(0, 0, 1, 1, 0), INDEX);
        due("n 0, i -1", x.copy(0, -1, 1, 0, 0), INDEX);
        due("n 0, j -1", x.copy(0, 0, 1, -1, 0), INDEX);
        due("n -1", x.copy(0, 0, 0, 0, -1), INDEX);
        due("n -1 at the end", x.copy(0, 4, 0, 4, -1), INDEX);
        due("n least", x.copy(0, 0, 0, 0, LEAST), INDEX);
        due("n most", x.copy(0, 0, 0, 0, MOST), INDEX);
        due("n 1 of an empty row", x.copy(1, 0, 0, 0, 1), INDEX);
        items(x, 0, 1, 1, 2, 3, 4);
    }

    private static void copyOverItself() {
        CHECK.says("as if all were taken ahead");
        for (int lane = 0; lane < 4; lane++) {
            FlexedFaces x = new FlexedFaces();
            Check.fill(x, 0, lane, 1, 2, 3, 4, 1);
            due("one on", x.copy(0, 0, 0, 1, 4), 4);
            items(x, 0, lane, 1, 1, 2, 3, 4);
            due("two back", x.copy(0, 2, 0, 0, 3), 3);
            items(x, 0, lane, 2, 3, 4, 3, 4);
        }
    }

    private static void copyRefused() {
        CHECK.says("BAD; NULL (either); CAST: of unlike LANES; INDEX");
        FlexedFaces x = new FlexedFaces();
        Check.fill(x, 0, 1, 1, 2, 3);
        Check.fill(x, 1, 2, 4, 4, 4);
        due("from -1", x.copy(-1, 0, 0, 0, 1), BAD);
        due("from 4", x.copy(4, 0, 0, 0, 1), BAD);
        due("to -1", x.copy(0, 0, -1, 0, 1), BAD);
        due("to 4", x.copy(0, 0, 4, 0, 1), BAD);
        due("from most", x.copy(MOST, 0, 0, 0, 1), BAD);
        due("to least", x.copy(0, 0, LEAST, 0, 1), BAD);
        due("from nothing to 4: BAD comes ahead of NULL", x.copy(2, 0, 4, 0, 1), BAD);
        due("from -1 to nothing: BAD comes ahead of NULL", x.copy(-1, 0, 2, 0, 1), BAD);
        due("to 4, n -1: BAD comes ahead of INDEX", x.copy(0, 0, 4, 0, -1), BAD);
        due("from nothing", x.copy(2, 0, 0, 0, 1), NULL);
        due("to nothing", x.copy(0, 0, 2, 0, 1), NULL);
        due("from nothing to nothing", x.copy(2, 0, 3, 0, 1), NULL);
        due("from nothing, n -1: NULL comes ahead of INDEX", x.copy(2, 0, 0, 0, -1), NULL);
        due("to nothing, i 3: NULL comes ahead of INDEX", x.copy(0, 3, 2, 0, 1), NULL);
        due("unlike LANES", x.copy(0, 0, 1, 0, 1), CAST);
        due("unlike LANES", x.copy(1, 0, 0, 0, 1), CAST);
        due("unlike LANES, n 0", x.copy(1, 0, 0, 0, 0), CAST);
        due("unlike LANES, n -1: CAST comes ahead of INDEX", x.copy(0, 0, 1, 0, -1), CAST);
        due("unlike LANES, i 9: CAST comes ahead of INDEX", x.copy(0, 9, 1, 0, 1), CAST);
        due("i most", x.copy(0, MOST, 0, 0, 1), INDEX);
        due("j most", x.copy(0, 0, 0, MOST, 1), INDEX);
        due("i least", x.copy(0, LEAST, 0, 0, 1), INDEX);
        due("j least", x.copy(0, 0, 0, LEAST, 1), INDEX);
        due("i, n most", x.copy(0, MOST, 0, 0, MOST), INDEX);
        due("j, n most", x.copy(0, 0, 0, MOST, MOST), INDEX);
        items(x, 0, 1, 1, 2, 3);
        items(x, 1, 2, 4, 4, 4);
    }

    /** Three STIFF ones go 2, 1, 0, 2, .. by ROUND, FRONT 0 and BACK 1. */
    private static void logAtTheEnds() {
        CHECK.says("FRONT behind 1, 2, .. n MOVES (1 .. 24) as by ROUND, an item each, comes to a SHEET");
        FlexedFaces x = Check.of("xs09,s09,s09;-;01");
        for (int lane = 0; lane < 4; lane++) {
            x.sheet(0, lane, 24);
            due("n 24 from 0 on", x.log(0, lane, 0, 24), 24);
            due("n 24 from 1 on", x.log(0, lane, 1, 24), INDEX);
            due("n 24 from -1 on", x.log(0, lane, -1, 24), INDEX);
            due("n 1 from 23 on", x.log(0, lane, 23, 1), 1);
            due("n 1 from 24 on", x.log(0, lane, 24, 1), INDEX);
            due("n 2 from 23 on", x.log(0, lane, 23, 2), INDEX);
            due("n 0", x.log(0, lane, 0, 0), BAD);
            due("n 25", x.log(0, lane, 0, 25), BAD);
            x.sheet(0, lane, 23);
            due("n 24, a row of 23", x.log(0, lane, 0, 24), INDEX);
            x.sheet(0, lane, 0);
            due("n 1, an empty row", x.log(0, lane, 0, 1), INDEX);
        }
        x.sheet(0, 1, 24);
        x.log(0, 1, 0, 24);
        for (int i = 0; i < 24; i++) {
            due("item " + i, read(x, 0, 1, i), new int[] {2, 1, 0}[i % 3]);
        }
    }

    /** STIFF ones wear nothing, so a second object can go the whole way. */
    private static void logStepByStep() {
        CHECK.says("FRONT behind 1, 2, .. n MOVES (1 .. 24) as by ROUND");
        for (int lane = 0; lane < 4; lane++) {
            String text = "xs09,s09,s09,s09,s09,s09,s09,s09;17,27,26,36,35;2" + (lane % 2 == 0 ? "6" : "1");
            FlexedFaces x = Check.of(text);
            FlexedFaces goes = Check.of(text);
            x.sheet(0, lane, 24);
            x.log(0, lane, 0, 24);
            for (int k = 0; k < 24; k++) {
                if (goes.flex(k % 2) == NOT && goes.flex(1 - k % 2) == NOT) {
                    goes.turn();
                }
                // by a TURN BACK comes to be FRONT, in all FOLDINGS, if the two are neighbours
                int front = goes.count(1);
                Check.fill(x, 1, lane, (front + 1) % 8, front, 2, 0);
                x.copy(0, k, 1, 3, 1);
                due("FRONT " + front + " behind " + (k + 1) + " MOVES of " + text, x.foldings(1, lane, 0, 1, 0), 132);
            }
        }
    }

    private static void logLeavesTheRest() {
        CHECK.says("an item each, comes to a SHEET, taken as a row of a LANE, from i on: n");
        FlexedFaces x = Check.of("xs09,s09,s09;-;01");
        Check.fill(x, 0, 2, 4, 4, 4, 4, 4);
        due("n 2 from 1 on", x.log(0, 2, 1, 2), 2);
        items(x, 0, 2, 4, 2, 1, 4, 4);
        due("n 3 from 3 on", x.log(0, 2, 3, 3), INDEX);
        items(x, 0, 2, 4, 2, 1, 4, 4);
        due("n 1 from 4 on", x.log(0, 2, 4, 1), 1);
        items(x, 0, 2, 4, 2, 1, 4, 2);
        due("FRONT stays", x.count(1), 0);
        due("ACTS", x.count(7), 0);
    }

    private static void logRefused() {
        CHECK.says("BAD; NULL; CAST; INDEX; NOT: no STRIP.");
        FlexedFaces x = new FlexedFaces();
        x.sheet(0, 1, 6);
        due("SHEET -1", x.log(-1, 1, 0, 1), BAD);
        due("SHEET 4", x.log(4, 1, 0, 1), BAD);
        due("LANE -1", x.log(0, -1, 0, 1), BAD);
        due("LANE 4", x.log(0, 4, 0, 1), BAD);
        due("n -1", x.log(0, 1, 0, -1), BAD);
        due("n least", x.log(0, 1, 0, LEAST), BAD);
        due("n most", x.log(0, 1, 0, MOST), BAD);
        due("n 0 of nothing: BAD comes ahead of NULL", x.log(1, 1, 0, 0), BAD);
        due("n 25, another LANE: BAD comes ahead of CAST", x.log(0, 2, 0, 25), BAD);
        due("n 25, i 6: BAD comes ahead of INDEX", x.log(0, 1, 6, 25), BAD);
        due("nothing, i -1: NULL comes ahead of INDEX and NOT", x.log(1, 1, -1, 1), NULL);
        due("another LANE, i 6: CAST comes ahead of INDEX and NOT", x.log(0, 2, 6, 1), CAST);
        due("i 6: INDEX comes ahead of NOT", x.log(0, 1, 6, 1), INDEX);
        due("i -1: INDEX comes ahead of NOT", x.log(0, 1, -1, 1), INDEX);
        due("no STRIP", x.log(0, 1, 0, 6), NOT);
        Check.read(x, FOUR);
        due("i most", x.log(0, 1, MOST, 1), INDEX);
        due("i least", x.log(0, 1, LEAST, 24), INDEX);
        due("a STRIP", x.log(0, 1, 0, 6), 6);
    }

    /** By FRONT, BACK and MOVES: how many, whether this one is among them, TRY. */
    private static void told(FlexedFaces x, int many, int among, int tried, long... items) {
        Check.fill(x, 0, 3, items);
        int n = (items.length - 2) / 2;
        String text = java.util.Arrays.toString(items);
        due("how many by " + text, x.foldings(0, 3, 0, n, 0), many);
        due("whether among by " + text, x.foldings(0, 3, 0, n, 1), among);
        due("TRY by " + text, x.foldings(0, 3, 0, n, 2), tried);
    }

    private static void foldingsOfEachRing() {
        CHECK.says("FOLDINGS are all ways to put FOLDS into a ring of as many PICTURES.");
        int[] ways = {1, 2, 5, 14, 42, 132};
        for (int n = 3; n <= 8; n++) {
            FlexedFaces x = Check.of(Texts.fanned(n, "p01", "01"));
            Check.fill(x, 0, 0, 0, 1);
            due("foldings of " + n, x.foldings(0, 0, 0, 0, 0), ways[n - 3]);
            Check.fill(x, 0, 0, n - 1, 0);
            due("foldings of " + n + ", from the last to the first", x.foldings(0, 0, 0, 0, 0), ways[n - 3]);
            for (int k = 2; k < n - 1; k++) {
                Check.fill(x, 0, 0, 0, k);
                due("foldings of " + n + ", 0 and " + k + " LINKED", x.foldings(0, 0, 0, 0, 0),
                    ways(k + 1) * ways(n - k + 1));
            }
        }
    }

    /** A FOLD cuts a ring into two, each of them folded by itself; of a pair there is one way. */
    private static int ways(int n) {
        return new int[] {0, 0, 1, 1, 2, 5, 14, 42, 132}[n];
    }

    private static void foldingsOfZeroToEight() {
        CHECK.says("n MOVES (0 to 8; each a MOVE, and FRONT behind it)");
        FlexedFaces x = Check.of(FOUR);
        Check.fill(x, 0, 3, 0, 1, 2, 1, 2, 0, 2, 1, 2, 0, 2, 1, 2, 0, 2, 1, 2, 0);
        for (int n = 0; n <= 8; n++) {
            due("n " + n, x.foldings(0, 3, 0, n, 0), 2);
        }
        due("n -1", x.foldings(0, 3, 0, -1, 0), BAD);
        due("n 9", x.foldings(0, 3, 0, 9, 0), BAD);
        x.item(0, 3, 17, 1);
        due("n 7, the eighth is not asked", x.foldings(0, 3, 0, 7, 0), 2);
        due("n 8, the eighth does not go so", x.foldings(0, 3, 0, 8, 0), 0);
        CHECK.says("n pairs, items of a SHEET, taken as a row of a LANE, from i on");
        x.sheet(1, 3, 24);
        x.copy(0, 0, 1, 6, 18);
        x.item(1, 3, 23, 0);
        due("n 8 from 6 on, the last items", x.foldings(1, 3, 6, 8, 0), 2);
        due("n 8 from 7 on", x.foldings(1, 3, 7, 8, 0), INDEX);
        due("n 0 from 22 on, 2 and 0", x.foldings(1, 3, 22, 0, 0), 1);
        due("n 0 from 23 on", x.foldings(1, 3, 23, 0, 0), INDEX);
        due("n 0 from 24 on", x.foldings(1, 3, 24, 0, 0), INDEX);
        due("n 0 from -1 on", x.foldings(1, 3, -1, 0, 0), INDEX);
        x.sheet(1, 3, 17);
        x.item(1, 3, 1, 1);
        due("n 8, a row of 17", x.foldings(1, 3, 0, 8, 0), INDEX);
        x.sheet(1, 3, 1);
        due("n 0, a row of 1", x.foldings(1, 3, 0, 0, 0), INDEX);
        x.sheet(1, 3, 0);
        due("n 0, an empty row", x.foldings(1, 3, 0, 0, 0), INDEX);
    }

    private static void foldingsAmong() {
        CHECK.says("whether this one is among them (1: 1, 0)");
        FlexedFaces x = Check.of(FOUR);
        told(x, 1, 1, 0, 0, 2);
        told(x, 1, 0, 0, 1, 3);
        x.flex(0);
        x.refold(0, 2);
        told(x, 1, 0, 0, 0, 2);
        told(x, 1, 1, 0, 1, 3);
        x.undo();
        told(x, 1, 1, 0, 0, 2);
        told(Check.of("xp01,p01,p01;-;01"), 1, 1, 0, 2, 1);
    }

    private static void foldingsTry() {
        CHECK.says("by which the greatest part of them that brings the same (or nothing) is least, of like ones the first");
        FlexedFaces x = Check.of(FOUR);
        // RIGHT brings nothing in both, LEFT 2 in one, 3 in the other
        told(x, 2, 1, 1, 0, 1);
        told(x, 2, 1, 0, 1, 0);
        // behind all that: the same, turned to 0 1, turned to 1 0
        told(x, 2, 1, 1, 1, 0, 2, 0);
        told(x, 2, 1, 0, 0, 1, 2, 1);
        // one alone: like ones
        told(x, 1, 1, 0, 0, 2);
        FlexedFaces eight = Check.of(Texts.fanned(8, "p01", "01"));
        // of 0 4 each side has 5 ways: 1, 2, 3 bring 2, 1, 2 times 5
        told(eight, 25, 1, 0, 0, 4);
        // of 0 3 RIGHT brings 1 or 2, 7 times 1 each; LEFT one of 4 to 7, 2 times 5, 2, 2, 5
        told(eight, 28, 1, 1, 0, 3);
        told(eight, 28, 1, 0, 3, 0);
        CHECK.says("none: there is none");
        told(x, 0, 0, NONE, 0, 1, 0, 2);
        told(x, 0, 0, NONE, 0, 1, 2, 0);
        told(Check.of("xp01,p01,p01;-;01"), 0, 0, NONE, 0, 1, 0, 2);
    }

    private static void foldingsNothingTorn() {
        CHECK.says("nothing being TORN");
        FlexedFaces x = Check.of(FOUR);
        for (int k = 0; k < 3; k++) {
            x.flex(0);
        }
        due("TORN", x.count(5), 5);
        told(x, 1, 1, 0, 0, 2, 0, 1, 0, 2, 0, 0, 1, 3, 1, 2);
        told(x, 1, 1, 0, 0, 1, 1, 2);
    }

    private static void foldingsRefused() {
        CHECK.says("BAD (no STRIP, too); NULL; CAST; INDEX; NOT");
        FlexedFaces none = new FlexedFaces();
        Check.fill(none, 0, 3, 0, 1);
        due("no STRIP", none.foldings(0, 3, 0, 0, 0), BAD);
        due("no STRIP and nothing: BAD comes ahead of NULL", none.foldings(1, 3, 0, 0, 0), BAD);
        due("no STRIP, another LANE: BAD comes ahead of CAST", none.foldings(0, 2, 0, 0, 0), BAD);
        due("no STRIP, i 9: BAD comes ahead of INDEX", none.foldings(0, 3, 9, 0, 0), BAD);
        FlexedFaces x = Check.of(FOUR);
        Check.fill(x, 0, 3, 9, 9, 9, 9);
        due("SHEET -1", x.foldings(-1, 3, 0, 0, 0), BAD);
        due("SHEET 4", x.foldings(4, 3, 0, 0, 0), BAD);
        due("LANE -1", x.foldings(0, -1, 0, 0, 0), BAD);
        due("LANE 4", x.foldings(0, 4, 0, 0, 0), BAD);
        due("what -1", x.foldings(0, 3, 0, 0, -1), BAD);
        due("what 3", x.foldings(0, 3, 0, 0, 3), BAD);
        due("n least", x.foldings(0, 3, 0, LEAST, 0), BAD);
        due("n most", x.foldings(0, 3, 0, MOST, 0), BAD);
        due("n 9 of nothing: BAD comes ahead of NULL", x.foldings(1, 3, 0, 9, 0), BAD);
        due("what 3, another LANE: BAD comes ahead of CAST", x.foldings(0, 2, 0, 0, 3), BAD);
        due("n 9, too short: BAD comes ahead of INDEX", x.foldings(0, 3, 0, 9, 0), BAD);
        due("what 3, no PICTURES: BAD comes ahead of NOT", x.foldings(0, 3, 0, 0, 3), BAD);
        due("nothing, i -1: NULL comes ahead of INDEX", x.foldings(1, 3, -1, 0, 0), NULL);
        due("another LANE, i -1: CAST comes ahead of INDEX", x.foldings(0, 2, -1, 0, 0), CAST);
        due("another LANE: CAST comes ahead of NOT", x.foldings(0, 2, 0, 0, 0), CAST);
        due("too short: INDEX comes ahead of NOT", x.foldings(0, 3, 0, 2, 0), INDEX);
        due("i least", x.foldings(0, 3, LEAST, 8, 0), INDEX);
        due("i most", x.foldings(0, 3, MOST, 8, 0), INDEX);
        due("no PICTURES", x.foldings(0, 3, 0, 0, 0), NOT);
    }

    private static void foldingsNot() {
        CHECK.says("NOT: FRONT, BACK, FRONT behind a MOVE are no PICTURES, FRONT and BACK at first are the same, a MOVE is none.");
        for (int n = 3; n <= 8; n++) {
            FlexedFaces x = Check.of(Texts.fanned(n, "p01", "01"));
            told(x, NOT, NOT, NOT, n, 1);
            told(x, NOT, NOT, NOT, -1, 1);
            told(x, NOT, NOT, NOT, 1, n);
            told(x, NOT, NOT, NOT, 1, -1);
            told(x, NOT, NOT, NOT, n - 1, n - 1);
            told(x, NOT, NOT, NOT, 0, 1, 2, n);
            told(x, NOT, NOT, NOT, 0, 1, 2, -1);
            told(x, NOT, NOT, NOT, 0, 1, 3, 1);
            told(x, NOT, NOT, NOT, 0, 1, -1, 1);
            due("the last PICTURE is one", x.sheet(0, 3, 2) + x.item(0, 3, 0, n - 1), n + 1);
            due("the last PICTURE is one", x.foldings(0, 3, 0, 0, 1), 1);
        }
        FlexedFaces x = Check.of(FOUR);
        // it would not go so already, but what comes behind is still looked at
        told(x, NOT, NOT, NOT, 0, 1, 0, 2, 0, 4);
        told(x, NOT, NOT, NOT, 0, 1, 0, 2, 3, 0);
        told(x, NOT, NOT, NOT, 1, 3, 2, 0, 2, 0, 2, 0, 2, 0, 2, 0, 2, 0, 2, 0, 2, 4);
        // FRONT behind a MOVE may be as FRONT was: it does not go so, that is all
        told(x, 0, 0, NONE, 0, 1, 2, 0);
        told(x, NOT, NOT, NOT, 0, 0);
    }

    private static void foldingsOfLongs() {
        CHECK.says("FRONT, BACK, FRONT behind a MOVE are no PICTURES");
        FlexedFaces x = Check.of(FOUR);
        told(x, NOT, NOT, NOT, 4294967296L, 1);
        told(x, NOT, NOT, NOT, 0, 4294967297L);
        told(x, NOT, NOT, NOT, 0, 1, 4294967298L, 1);
        told(x, NOT, NOT, NOT, 0, 1, 2, 4294967297L);
        told(x, NOT, NOT, NOT, Long.MIN_VALUE, 1);
        told(x, NOT, NOT, NOT, Long.MAX_VALUE, 1);
        told(x, 2, 1, 0, 0, 1, 2, 1);
    }

    private static void pairs(int set, int tried, long... items) {
        FlexedFaces x = new FlexedFaces();
        Check.fill(x, 1, 3, items);
        String text = java.util.Arrays.toString(items);
        due("kinds by " + text, x.kinds(1, 3, 0, items.length / 2, 0), set);
        due("TRY by " + text, x.kinds(1, 3, 0, items.length / 2, 1), tried);
    }

    private static void kindsOfOneToTen() {
        CHECK.says("KINDS by n pairs (1 to 10; how often a PICTURE was SHOWN, the EFFORT that it took)");
        FlexedFaces x = new FlexedFaces();
        Check.fill(x, 0, 0, 0, 4, 0, 4, 0, 4, 0, 4, 0, 4, 0, 4, 0, 4, 0, 4, 0, 4, 1, 3, 1, 4);
        for (int n = 1; n <= 9; n++) {
            due("n " + n, x.kinds(0, 0, 0, n, 0), 48);
        }
        due("n 10, the tenth tells", x.kinds(0, 0, 0, 10, 0), 32);
        due("n 10 from 2 on, all told", x.kinds(0, 0, 2, 10, 0), 0);
        due("n 0", x.kinds(0, 0, 0, 0, 0), BAD);
        due("n 11, though the row has as many", x.kinds(0, 0, 0, 11, 0), BAD);
        due("n -1", x.kinds(0, 0, 0, -1, 0), BAD);
        due("n 10 from 3 on", x.kinds(0, 0, 3, 10, 0), INDEX);
        due("n 1 from 20 on, the last pair", x.kinds(0, 0, 20, 1, 0), 16);
        due("n 1 from 21 on", x.kinds(0, 0, 21, 1, 0), INDEX);
        due("n 1 from 22 on", x.kinds(0, 0, 22, 1, 0), INDEX);
        due("n 1 from -1 on", x.kinds(0, 0, -1, 1, 0), INDEX);
        x.sheet(1, 0, 1);
        due("n 1, a row of 1", x.kinds(1, 0, 0, 1, 0), INDEX);
        x.sheet(1, 0, 0);
        due("n 1, an empty row", x.kinds(1, 0, 0, 1, 0), INDEX);
    }

    private static void kindsShown() {
        CHECK.says("NOT: how often SHOWN is not 0 to 99.");
        pairs(48, 1, 0, 4);
        pairs(36, 0, 99, 1);
        pairs(NOT, NOT, -1, 4);
        pairs(NOT, NOT, 100, 1);
        pairs(NOT, NOT, Long.MIN_VALUE, 4);
        pairs(NOT, NOT, Long.MAX_VALUE, 1);
        pairs(NOT, NOT, 4294967296L, 4);
        // no KIND is left already, but what comes behind is still looked at
        pairs(NOT, NOT, 0, 9, 100, 1);
        pairs(NOT, NOT, 0, 4, 1, 3, 2, 2, 3, 1, 4, 1, 5, 1, 6, 1, 7, 1, 8, 1, 100, 1);
        CHECK.says("those that a PICTURE may be of");
        int[][] sets = {{0, 4, 10, 0, 48, 0}, {0, 4, 10, 32, 16, 0}, {0, 4, 42, 0, 16, 0}, {0, 36, 10, 0, 16, 0},
            {0, 36, 10, 0, 16, 0}};
        for (int shown = 0; shown < sets.length; shown++) {
            for (int effort = 0; effort < 6; effort++) {
                FlexedFaces x = new FlexedFaces();
                Check.fill(x, 1, 3, shown, effort);
                due("SHOWN " + shown + ", EFFORT " + effort, x.kinds(1, 3, 0, 1, 0), sets[shown][effort]);
            }
        }
        pairs(0, NONE, 0, -1);
        pairs(0, NONE, 0, 4294967298L);
        pairs(0, NONE, 0, Long.MIN_VALUE);
        pairs(0, NONE, 0, Long.MAX_VALUE);
    }

    private static void kindsTry() {
        CHECK.says("TRY: how often SHOWN (0 to 9) the greatest part of these that takes as much is least, of like ones the least");
        pairs(48, 1, 0, 4);
        pairs(10, 0, 0, 2);
        pairs(42, 0, 2, 2);
        pairs(36, 0, 3, 1);
        pairs(16, 0, 9, 4);
        pairs(32, 0, 1, 3);
        pairs(4, 0, 0, 1);
        CHECK.says("none: there is no KIND");
        pairs(0, NONE, 0, 3);
        pairs(0, NONE, 0, 4, 1, 2);
    }

    private static void kindsRefused() {
        CHECK.says("as a set (bits 1 .. 5; what 0), TRY (1; NONE). BAD; NULL; CAST; INDEX; NOT");
        FlexedFaces x = new FlexedFaces();
        Check.fill(x, 0, 2, 100, 4);
        due("SHEET -1", x.kinds(-1, 2, 0, 1, 0), BAD);
        due("SHEET 4", x.kinds(4, 2, 0, 1, 0), BAD);
        due("LANE -1", x.kinds(0, -1, 0, 1, 0), BAD);
        due("LANE 4", x.kinds(0, 4, 0, 1, 0), BAD);
        due("what -1", x.kinds(0, 2, 0, 1, -1), BAD);
        due("what 2", x.kinds(0, 2, 0, 1, 2), BAD);
        due("n least", x.kinds(0, 2, 0, LEAST, 0), BAD);
        due("n most", x.kinds(0, 2, 0, MOST, 0), BAD);
        due("n 0 of nothing: BAD comes ahead of NULL", x.kinds(1, 2, 0, 0, 0), BAD);
        due("what 2, another LANE: BAD comes ahead of CAST", x.kinds(0, 1, 0, 1, 2), BAD);
        due("n 11, too short: BAD comes ahead of INDEX", x.kinds(0, 2, 0, 11, 0), BAD);
        due("what 2, SHOWN 100: BAD comes ahead of NOT", x.kinds(0, 2, 0, 1, 2), BAD);
        due("nothing, i -1: NULL comes ahead of INDEX", x.kinds(1, 2, -1, 1, 0), NULL);
        due("another LANE, i -1: CAST comes ahead of INDEX", x.kinds(0, 1, -1, 1, 0), CAST);
        due("another LANE: CAST comes ahead of NOT", x.kinds(0, 1, 0, 1, 0), CAST);
        due("too short: INDEX comes ahead of NOT", x.kinds(0, 2, 0, 2, 0), INDEX);
        due("i least", x.kinds(0, 2, LEAST, 10, 0), INDEX);
        due("i most", x.kinds(0, 2, MOST, 10, 0), INDEX);
        due("SHOWN 100", x.kinds(0, 2, 0, 1, 0), NOT);
        due("SHOWN 100, TRY: NOT, not NONE", x.kinds(0, 2, 0, 1, 1), NOT);
    }

    private static void kindsWithoutStrip() {
        CHECK.says("KINDS by n pairs, likewise");
        FlexedFaces x = new FlexedFaces();
        Check.fill(x, 0, 1, 0, 4);
        due("no STRIP", x.kinds(0, 1, 0, 1, 0), 48);
        Check.read(x, FOUR);
        due("a STRIP", x.kinds(0, 1, 0, 1, 0), 48);
    }
}
