import java.util.ArrayList;
import java.util.List;
import java.util.function.Supplier;
import java.util.function.ToLongFunction;

/** Whether a call changed anything: of two objects made alike one gets the call, then both are asked all there is. */
final class Twins {
    private static final String TAPE = "xt31,g29,", REST = "b73;-;20";
    private final List<String> asked = new ArrayList<>();
    private final List<Long> answers = new ArrayList<>();

    private Twins() { }

    /** The call is refused as due, and nothing changed. */
    static void refused(Check check, String call, Supplier<FlexedFaces> maker, ToLongFunction<FlexedFaces> done, long want) {
        check.due(call, done.applyAsLong(maker.get()), want);
        unchanged(check, call, maker, done);
    }

    static void unchanged(Check check, String call, Supplier<FlexedFaces> maker, ToLongFunction<FlexedFaces> done) {
        FlexedFaces called = maker.get();
        done.applyAsLong(called);
        Twins with = askedOf(called);
        Twins without = askedOf(maker.get());
        check.due("how many answers behind " + call, with.answers.size(), without.answers.size());
        for (int k = 0; k < Math.min(with.answers.size(), without.answers.size()); k++) {
            check.due(with.asked.get(k) + " behind " + call, with.answers.get(k), without.answers.get(k));
        }
    }

    /** No STRIP, no SHEET, an empty TAPE. */
    static FlexedFaces bare() {
        return new FlexedFaces();
    }

    /** No STRIP; SHEETS of bytes, of longs (full) and of shorts (empty), one that is nothing; bytes on THE TAPE. */
    static FlexedFaces unread() {
        FlexedFaces x = new FlexedFaces();
        sheets(x);
        tape(x);
        return x;
    }

    /** FRONT 0, BACK 4, joined by a FOLD; 8 ACTS, both IMAGES, SHEETS, bytes on THE TAPE. */
    static FlexedFaces used() {
        FlexedFaces x = Check.of("xp32,g51,t72,s19,b49,p63;02,24,04;02");
        sheets(x);
        x.image(0);
        x.flex(0);
        x.flex(0);
        x.flex(0);
        x.image(1);
        x.flex(1);
        x.turn();
        x.refold(2, 4);
        x.mend(2);
        tape(x);
        return x;
    }

    /** FRONT 1, BACK 0, all TORN; more ACTS than can be undone, a full TAPE, no IMAGE 1. */
    static FlexedFaces full() {
        FlexedFaces x = Check.of("xp11,p21,p31;-;01");
        x.image(0);
        for (int k = 0; k < 27; k++) {
            x.turn();
        }
        for (int k = 0; k < 3; k++) {
            x.flex(0);
        }
        sheets(x);
        for (int k = 0; k < 80; k++) {
            x.feed(k);
        }
        return x;
    }

    private static void sheets(FlexedFaces x) {
        Check.fill(x, 0, 0, 1, 4, 2, 1, 3, 2);
        x.sheet(1, 3, 24);
        x.item(1, 3, 0, 1);
        x.item(1, 3, 1, 2);
        x.item(1, 3, 22, 2);
        x.item(1, 3, 23, 4);
        x.sheet(2, 1, 0);
    }

    private static void tape(FlexedFaces x) {
        for (int k = 0; k < TAPE.length(); k++) {
            x.feed(TAPE.charAt(k));
        }
    }

    private void note(String call, long answer) {
        asked.add(call);
        answers.add(answer);
    }

    private static Twins askedOf(FlexedFaces x) {
        Twins all = new Twins();
        all.askStrip(x);
        all.askForetold(x);
        all.askSheets(x);
        all.undoAll(x);
        for (int k = 0; k < 2; k++) {
            all.note("restore(" + k + ")", x.restore(k));
            all.askCounts(x);
            all.askLinks(x);
        }
        for (int sheet = 0; sheet < 4; sheet++) {
            all.note("drop(" + sheet + ")", x.drop(sheet));
        }
        all.readTape(x);
        return all;
    }

    private void askCounts(FlexedFaces x) {
        for (int what = 0; what < 9; what++) {
            note("count(" + what + ")", x.count(what));
        }
    }

    private void askLinks(FlexedFaces x) {
        for (int p = 0; p < x.count(0); p++) {
            note("picture(" + p + ", 6)", x.picture(p, 6));
        }
    }

    private void askStrip(FlexedFaces x) {
        askCounts(x);
        for (int p = 0; p < x.count(0); p++) {
            for (int what = 0; what < 8; what++) {
                note("picture(" + p + ", " + what + ")", x.picture(p, what));
            }
        }
    }

    private void askForetold(FlexedFaces x) {
        note("brings(0)", x.brings(0));
        note("brings(1)", x.brings(1));
        note("reach()", x.reach());
        note("tour()", x.tour());
        note("duel(3)", x.duel(3));
        note("decades(20, 77, 0)", x.decades(20, 77, 0));
    }

    /** Which LANE a SHEET has, how long it is, and its items, pair by pair, as far as they are told by kinds. */
    private void askSheets(FlexedFaces x) {
        for (int sheet = 0; sheet < 4; sheet++) {
            for (int lane = 0; lane < 4; lane++) {
                note("log(" + sheet + ", " + lane + ", -1, 1)", x.log(sheet, lane, -1, 1));
            }
        }
        for (int i = 0; i < 6; i++) {
            note("kinds(0, 0, " + i + ", 1, 0)", x.kinds(0, 0, i, 1, 0));
        }
        for (int i = 0; i < 24; i++) {
            note("kinds(1, 3, " + i + ", 1, 0)", x.kinds(1, 3, i, 1, 0));
        }
    }

    private void undoAll(FlexedFaces x) {
        for (int k = 0; k < 25; k++) {
            note("undo()", x.undo());
            note("FRONT", x.count(1));
            note("EFFORT", x.count(3));
            note("WEAR", x.count(6));
            if (x.count(7) == 0) {
                break;
            }
        }
        askLinks(x);
    }

    private void readTape(FlexedFaces x) {
        for (int k = 0; k < REST.length(); k++) {
            note("feed", x.feed(REST.charAt(k)));
        }
        note("strip()", x.strip());
        askStrip(x);
    }
}
