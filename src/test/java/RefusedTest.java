import java.util.function.Supplier;
import java.util.function.ToLongFunction;

/** "What is refused changes nothing, but as told.": each refusal that a promise names, in each state it can come in. */
public final class RefusedTest {
    private static final Check CHECK = new Check("RefusedTest");
    private static final int BAD = -1, NOT = -2, FULL = -3, NONE = -4, NULL = -11, CAST = -12, INDEX = -13, SIZE = -14;
    private static String state = "";
    private static Supplier<FlexedFaces> maker = Twins::bare;

    private static void refused(String call, int want, ToLongFunction<FlexedFaces> done) {
        Twins.refused(CHECK, state + call, maker, done, want);
    }

    private static void in(String name, Supplier<FlexedFaces> made) {
        state = name + ": ";
        maker = made;
    }

    public static void main(String[] args) {
        CHECK.says("What is refused changes nothing, but as told.");
        in("bare", Twins::bare);
        badInAnyState();
        withoutStrip();
        nothingThere();
        in("unread", Twins::unread);
        badInAnyState();
        withoutStrip();
        sheetsRefused();
        unreadSheets();
        in("used", Twins::used);
        badInAnyState();
        sheetsRefused();
        usedStrip();
        foldingsRefused();
        in("full", Twins::full);
        badInAnyState();
        sheetsRefused();
        fullStrip();
        askingChangesNothing();
        faultsTakeTheTapeAlone();
        CHECK.end();
    }

    private static void badInAnyState() {
        refused("feed(-1)", BAD, x -> x.feed(-1));
        refused("feed(256)", BAD, x -> x.feed(256));
        refused("picture(-1, 0)", BAD, x -> x.picture(-1, 0));
        refused("picture(8, 0)", BAD, x -> x.picture(8, 0));
        refused("picture(0, 8)", BAD, x -> x.picture(0, 8));
        refused("as(-1, 0)", BAD, x -> x.as(-1, 0));
        refused("as(0, 6)", BAD, x -> x.as(0, 6));
        refused("brings(2)", BAD, x -> x.brings(2));
        refused("flex(-1)", BAD, x -> x.flex(-1));
        refused("flex(2)", BAD, x -> x.flex(2));
        refused("refold(0, 0)", BAD, x -> x.refold(0, 0));
        refused("refold(-1, 2)", BAD, x -> x.refold(-1, 2));
        refused("refold(0, 8)", BAD, x -> x.refold(0, 8));
        refused("mend(-1)", BAD, x -> x.mend(-1));
        refused("mend(8)", BAD, x -> x.mend(8));
        refused("image(-1)", BAD, x -> x.image(-1));
        refused("image(2)", BAD, x -> x.image(2));
        refused("restore(-1)", BAD, x -> x.restore(-1));
        refused("restore(2)", BAD, x -> x.restore(2));
        refused("way(8, 0)", BAD, x -> x.way(8, 0));
        refused("way(0, -3)", BAD, x -> x.way(0, -3));
        refused("round(2)", BAD, x -> x.round(2));
        refused("hand(0, 7, 5, 0)", BAD, x -> x.hand(0, 7, 5, 0));
        refused("duel(7)", BAD, x -> x.duel(7));
        refused("decades(61, 1, 0)", BAD, x -> x.decades(61, 1, 0));
        refused("sheet(4, 0, 1)", BAD, x -> x.sheet(4, 0, 1));
        refused("sheet(0, 4, 1)", BAD, x -> x.sheet(0, 4, 1));
        refused("sheet(0, 0, 25)", BAD, x -> x.sheet(0, 0, 25));
        refused("sheet(0, 0, -1)", SIZE, x -> x.sheet(0, 0, -1));
        refused("drop(4)", BAD, x -> x.drop(4));
        refused("item(4, 0, 0, 3)", BAD, x -> x.item(4, 0, 0, 3));
        refused("item(0, 4, 0, 3)", BAD, x -> x.item(0, 4, 0, 3));
        refused("copy(0, 0, 4, 0, 1)", BAD, x -> x.copy(0, 0, 4, 0, 1));
        refused("copy(-1, 0, 0, 0, 1)", BAD, x -> x.copy(-1, 0, 0, 0, 1));
        refused("log(0, 0, 0, 0)", BAD, x -> x.log(0, 0, 0, 0));
        refused("log(1, 3, 0, 25)", BAD, x -> x.log(1, 3, 0, 25));
        refused("foldings(0, 0, 0, 9, 0)", BAD, x -> x.foldings(0, 0, 0, 9, 0));
        refused("kinds(0, 0, 0, 11, 0)", BAD, x -> x.kinds(0, 0, 0, 11, 0));
        refused("count(9)", BAD, x -> x.count(9));
        refused("drop(3)", NULL, x -> x.drop(3));
        refused("item(3, 0, 0, 3)", NULL, x -> x.item(3, 0, 0, 3));
        refused("copy(3, 0, 3, 0, 1)", NULL, x -> x.copy(3, 0, 3, 0, 1));
        refused("log(3, 0, 0, 1)", NULL, x -> x.log(3, 0, 0, 1));
        refused("kinds(3, 0, 0, 1, 0)", NULL, x -> x.kinds(3, 0, 0, 1, 0));
    }

    private static void withoutStrip() {
        refused("picture(0, 0)", BAD, x -> x.picture(0, 0));
        refused("as(0, 0)", BAD, x -> x.as(0, 0));
        refused("brings(0)", NOT, x -> x.brings(0));
        refused("flex(0)", NOT, x -> x.flex(0));
        refused("flex(1)", NOT, x -> x.flex(1));
        refused("turn()", NOT, x -> x.turn());
        refused("refold(0, 2)", BAD, x -> x.refold(0, 2));
        refused("mend(0)", BAD, x -> x.mend(0));
        refused("undo()", NONE, x -> x.undo());
        refused("image(0)", NOT, x -> x.image(0));
        refused("image(1)", NOT, x -> x.image(1));
        refused("restore(0)", NOT, x -> x.restore(0));
        refused("restore(1)", NOT, x -> x.restore(1));
        refused("reach()", NOT, x -> x.reach());
        refused("way(0, -2)", BAD, x -> x.way(0, -2));
        refused("tour()", NOT, x -> x.tour());
        refused("round(0)", NOT, x -> x.round(0));
        refused("hand(0, 1, 5, 0)", BAD, x -> x.hand(0, 1, 5, 0));
        refused("duel(6)", NOT, x -> x.duel(6));
        refused("decades(60, 1, 0)", NOT, x -> x.decades(60, 1, 0));
        refused("foldings(0, 0, 0, 0, 0)", BAD, x -> x.foldings(0, 0, 0, 0, 0));
    }

    private static void nothingThere() {
        for (int k = 0; k < 4; k++) {
            int sheet = k;
            refused("drop(" + k + ")", NULL, x -> x.drop(sheet));
            refused("item(" + k + ", 0, 0, 3)", NULL, x -> x.item(sheet, 0, 0, 3));
            refused("copy(" + k + ", 0, 0, 0, 0)", NULL, x -> x.copy(sheet, 0, 0, 0, 0));
            refused("log(" + k + ", 0, 0, 1)", NULL, x -> x.log(sheet, 0, 0, 1));
            refused("kinds(" + k + ", 0, 0, 1, 0)", NULL, x -> x.kinds(sheet, 0, 0, 1, 0));
        }
    }

    /** SHEET 0 has 6 bytes, 1 has 24 longs, 2 is an empty row of shorts, 3 is nothing. */
    private static void sheetsRefused() {
        refused("sheet(1, 0, -1)", SIZE, x -> x.sheet(1, 0, -1));
        refused("sheet(3, 3, -1)", SIZE, x -> x.sheet(3, 3, -1));
        refused("item(0, 1, 0, 3)", CAST, x -> x.item(0, 1, 0, 3));
        refused("item(0, 0, 6, 3)", INDEX, x -> x.item(0, 0, 6, 3));
        refused("item(0, 0, -1, 3)", INDEX, x -> x.item(0, 0, -1, 3));
        refused("item(1, 3, 24, 3)", INDEX, x -> x.item(1, 3, 24, 3));
        refused("item(2, 1, 0, 3)", INDEX, x -> x.item(2, 1, 0, 3));
        refused("copy(0, 0, 3, 0, 1)", NULL, x -> x.copy(0, 0, 3, 0, 1));
        refused("copy(3, 0, 0, 0, 1)", NULL, x -> x.copy(3, 0, 0, 0, 1));
        refused("copy(0, 0, 1, 0, 1)", CAST, x -> x.copy(0, 0, 1, 0, 1));
        refused("copy(0, 0, 0, 1, 6)", INDEX, x -> x.copy(0, 0, 0, 1, 6));
        refused("copy(0, 1, 0, 0, 6)", INDEX, x -> x.copy(0, 1, 0, 0, 6));
        refused("copy(1, 0, 1, 23, 2)", INDEX, x -> x.copy(1, 0, 1, 23, 2));
        refused("copy(0, 2, 0, 0, -1)", INDEX, x -> x.copy(0, 2, 0, 0, -1));
        refused("log(0, 1, 0, 1)", CAST, x -> x.log(0, 1, 0, 1));
        refused("log(0, 0, 1, 6)", INDEX, x -> x.log(0, 0, 1, 6));
        refused("log(0, 0, -1, 6)", INDEX, x -> x.log(0, 0, -1, 6));
        refused("log(1, 3, 1, 24)", INDEX, x -> x.log(1, 3, 1, 24));
        refused("kinds(0, 1, 0, 1, 0)", CAST, x -> x.kinds(0, 1, 0, 1, 0));
        refused("kinds(0, 0, 0, 4, 0)", INDEX, x -> x.kinds(0, 0, 0, 4, 0));
    }

    private static void unreadSheets() {
        refused("log(0, 0, 0, 6)", NOT, x -> x.log(0, 0, 0, 6));
        refused("log(1, 3, 0, 24)", NOT, x -> x.log(1, 3, 0, 24));
        refused("foldings(1, 3, 0, 0, 2)", BAD, x -> x.foldings(1, 3, 0, 0, 2));
    }

    private static void usedStrip() {
        refused("picture(6, 0)", BAD, x -> x.picture(6, 0));
        refused("as(0, 2)", CAST, x -> x.as(0, 2));
        refused("refold(6, 0)", BAD, x -> x.refold(6, 0));
        refused("refold(0, 5)", NOT, x -> x.refold(0, 5));
        refused("refold(1, 4)", NOT, x -> x.refold(1, 4));
        refused("refold(0, 4), FRONT and BACK", NOT, x -> x.refold(0, 4));
        refused("refold(4, 0), FRONT and BACK", NOT, x -> x.refold(4, 0));
        refused("mend(3)", NOT, x -> x.mend(3));
        refused("mend(6)", BAD, x -> x.mend(6));
        refused("way(6, -2)", BAD, x -> x.way(6, -2));
        refused("hand(6, 1, 5, 0)", BAD, x -> x.hand(6, 1, 5, 0));
        refused("hand(0, 1, 11, 0)", BAD, x -> x.hand(0, 1, 11, 0));
        refused("decades(1, 0, 0)", BAD, x -> x.decades(1, 0, 0));
    }

    private static void foldingsRefused() {
        refused("foldings(3, 0, 0, 0, 0)", NULL, x -> x.foldings(3, 0, 0, 0, 0));
        refused("foldings(0, 1, 0, 0, 0)", CAST, x -> x.foldings(0, 1, 0, 0, 0));
        refused("foldings(0, 0, 0, 3, 0)", INDEX, x -> x.foldings(0, 0, 0, 3, 0));
        refused("foldings(1, 3, 3, 0, 0), the same", NOT, x -> x.foldings(1, 3, 3, 0, 0));
        refused("foldings(0, 0, 2, 1, 0), MOVE 3", NOT, x -> x.foldings(0, 0, 2, 1, 0));
    }

    private static void fullStrip() {
        refused("feed('x')", FULL, x -> x.feed('x'));
        refused("feed(0)", FULL, x -> x.feed(0));
        refused("flex(0), a TORN one", NOT, x -> x.flex(0));
        refused("flex(1), none", NOT, x -> x.flex(1));
        refused("refold(0, 1)", NOT, x -> x.refold(0, 1));
        refused("picture(3, 0)", BAD, x -> x.picture(3, 0));
        refused("mend(3)", BAD, x -> x.mend(3));
        refused("restore(1), none was kept", NOT, x -> x.restore(1));
        refused("way(2, -2), it cannot come", NONE, x -> x.way(2, -2));
    }

    private static void askingChangesNothing() {
        in("asked", Twins::used);
        CHECK.says("---- 1 what is told");
        Twins.unchanged(CHECK, "picture", maker, x -> x.picture(0, 6));
        Twins.unchanged(CHECK, "as", maker, x -> x.as(0, 1));
        Twins.unchanged(CHECK, "brings", maker, x -> x.brings(0) + x.brings(1));
        Twins.unchanged(CHECK, "foldings", maker, x -> x.foldings(0, 0, 0, 0, 2));
        Twins.unchanged(CHECK, "kinds", maker, x -> x.kinds(0, 0, 0, 3, 1));
        Twins.unchanged(CHECK, "count", maker, x -> x.count(4));
        Twins.unchanged(CHECK, "a copy of none", maker, x -> x.copy(0, 6, 0, 0, 0));
        Twins.unchanged(CHECK, "a copy onto itself", maker, x -> x.copy(1, 0, 1, 0, 24));
    }

    /** THE TAPE is empty behind a FAULT, as told; so both are, and all else is as it was. */
    private static void faultsTakeTheTapeAlone() {
        CHECK.says("-100 less the place of a FAULT (all else stays)");
        in("emptied", RefusedTest::emptied);
        Twins.refused(CHECK, "a FAULT of nothing", maker, x -> x.strip(), -100);
        Twins.refused(CHECK, "a FAULT at x", maker, x -> Check.read(x, "y"), -100);
        Twins.refused(CHECK, "a FAULT of too few", maker, x -> Check.read(x, "xp01,p01;-;01"), -108);
        Twins.refused(CHECK, "a FAULT at BACK", maker, x -> Check.read(x, "xg01,g01,g01;-;00"), -116);
        Twins.refused(CHECK, "a FAULT behind BACK", maker, x -> Check.read(x, "xg01,g01,g01;-;01 "), -117);
        Twins.refused(CHECK, "a FAULT of a FOLD", maker, x -> Check.read(x, "xg01,g01,g01,g01;03;01"), -118);
    }

    private static FlexedFaces emptied() {
        FlexedFaces x = Twins.used();
        x.strip();
        return x;
    }
}
