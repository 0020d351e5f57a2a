import java.util.function.ToLongFunction;

/** The edges that the document names of what is KNOWN, images and about (promises 41 to 49). */
public final class KnownEdgesTest extends Checks {
    // Of the last house, by the first tune: 216 rows come to 0, 126 to 3, 1 to 6;
    // by the second one: 64 to 0, 183 to 1, 90 to 2, 5 to 3, 1 to 6.
    private static final String TWO_TUNES = "tune a price 5 notes 0 0 0;tune b price 5 notes 1 2 3;" + HOUSE_A
            + "house b at 0 purse 4 likes 6 6 6;";

    /** At 5 something is known, at 7 more, at 8 that is untold; all else is stirred, too. */
    private static TuneApproval busy() {
        TuneApproval x = told(LANE);
        x.later(5);
        x.known(0, 1, true);
        x.later(2);
        x.known(2, 2, false);
        x.later(1);
        x.untell(1);
        x.bring(2, 0);
        x.week();
        x.image(1);
        x.week();
        x.fill(2, 6);
        x.undo();
        x.walk(0);
        put(x, "draw 3;");
        return x;
    }

    private static void nothing(String name, ToLongFunction<TuneApproval> call, long answer) {
        doesNothing(name, KnownEdgesTest::busy, call, answer);
    }

    // ---- promise 41

    private static void knownsThatCantBe() {
        promise(41);
        for (int tune : new int[] {-1, 3, MIN, MAX}) {
            nothing("known(" + tune + ", 0, true)", x -> x.known(tune, 0, true), NONE);
        }
        for (int glad : new int[] {-1000, 1000, -9999, 9999, MIN, MAX}) {
            nothing("known(0, " + glad + ", true)", x -> x.known(0, glad, true), NONE);
            nothing("known(0, " + glad + ", false)", x -> x.known(0, glad, false), NONE);
        }
        due("known(0, 0, true) of none", new TuneApproval().known(0, 0, true), NONE);
        due("known(0, 0, true) without houses", told(TUNE_A).known(0, 0, true), NONE);
        due("known(0, 0, true) without tunes", told(HOUSE_A).known(0, 0, true), NONE);
        TuneApproval x = told(TWO_TUNES);
        int[] taken = {-999, -998, 0, 998, 999};
        for (int i = 0; i < taken.length; i++) {
            due("known(1, " + taken[i] + ", true)", x.known(1, taken[i], true), i);
        }
        due("about(9)", x.about(9), 5);
        due("known(2, 0, true)", x.known(2, 0, true), NONE);
    }

    private static TuneApproval thirty() {
        TuneApproval x = told(TWO_TUNES);
        for (int i = 0; i < 30; i++) {
            due("known", x.known(i % 2, 0, true), i);
        }
        return x;
    }

    private static void thirtyAreKnown() {
        promise(41);
        TuneApproval x = thirty();
        due("about(9)", x.about(9), 30);
        doesNothing("known, 30 there", KnownEdgesTest::thirty, y -> y.known(0, 0, true), NONE);
        doesNothing("known that can't be, 30 there", KnownEdgesTest::thirty, y -> y.known(9, 0, true), NONE);
        // one that was untold is told nonetheless
        due("untell(29)", x.untell(29), true);
        due("known", x.known(0, 0, true), NONE);
        due("untell(30)", x.untell(30), false);
        // the next lane begins anew
        put(x, TWO_TUNES);
        x.lane();
        due("about(9)", x.about(9), 0);
        due("untell(0)", x.untell(0), false);
        due("known", x.known(0, 0, true), 0);
    }

    /** How many rows are left by one that is known. */
    private static int rowsBy(int tune, int glad, boolean is) {
        TuneApproval x = told(TWO_TUNES);
        due("known", x.known(tune, glad, is), 0);
        return x.rows(0);
    }

    private static void gladAtLeast() {
        promise(41);
        int[] first = {343, 127, 127, 127, 1, 1, 1, 0};
        int[] second = {343, 279, 96, 6, 1, 1, 1, 0};
        for (int glad = 0; glad < 8; glad++) {
            due("rows by the first, " + glad, rowsBy(0, glad, true), first[glad]);
            due("rows by the first, not " + glad, rowsBy(0, glad, false), 343 - first[glad]);
            due("rows by the second, " + glad, rowsBy(1, glad, true), second[glad]);
            due("rows by the second, not " + glad, rowsBy(1, glad, false), 343 - second[glad]);
        }
        due("rows by -999", rowsBy(0, -999, true), 343);
        due("rows by not -999", rowsBy(0, -999, false), 0);
        due("rows by 999", rowsBy(0, 999, true), 0);
        due("rows by not 999", rowsBy(0, 999, false), 343);
        // gladness goes beyond what can be known
        TuneApproval x = told(TWO_TUNES + "glad 9999;");
        x.known(0, 999, true);
        due("rows(0)", x.rows(0), 343);
        TuneApproval y = told(TWO_TUNES + "glad 0-9999;");
        y.known(0, -999, true);
        due("rows(0)", y.rows(0), 0);
        // -999 is at least -999, -1000 is not
        TuneApproval z = told(TWO_TUNES + "glad 0-999;");
        z.known(0, -999, true);
        due("rows(0)", z.rows(0), 343);
        TuneApproval w = told(TWO_TUNES + "glad 0-1000;");
        w.known(0, -999, true);
        due("rows(0)", w.rows(0), 0);
    }

    // ---- promise 42

    private static void untold() {
        promise(42);
        nothing("untell(1), untold already", x -> x.untell(1) ? 1 : 0, 0);
        for (int known : new int[] {-1, 2, 29, 30, MIN, MAX}) {
            nothing("untell(" + known + "), none such", x -> x.untell(known) ? 1 : 0, 0);
        }
        due("untell(0) of none", new TuneApproval().untell(0), false);
        // a second time does not make it later
        TuneApproval x = told(TWO_TUNES);
        x.known(0, 6, true);
        x.later(3);
        due("untell(0)", x.untell(0), true);
        x.later(3);
        due("untell(0)", x.untell(0), false);
        int[] rows = {1, 1, 1, 343, 343, 343, 343};
        for (int k = 0; k < rows.length; k++) {
            due("rows(" + k + ")", x.rows(k), rows[k]);
        }
        // the last of thirty
        TuneApproval y = thirty();
        due("untell(29)", y.untell(29), true);
        due("untell(0)", y.untell(0), true);
        due("untell(30)", y.untell(30), false);
        due("about(9)", y.about(9), 30);
    }

    private static void toldAndUntoldAtOneTime() {
        promise(42);
        TuneApproval x = told(TWO_TUNES);
        x.later(5);
        x.known(0, 6, true);
        due("rows(4)", x.rows(4), 343);
        due("rows(5)", x.rows(5), 1);
        x.untell(0);
        due("rows(4)", x.rows(4), 343);
        due("rows(5)", x.rows(5), 343);
        due("rows(6)", x.rows(6), 343);
        // at TIME 0
        TuneApproval y = told(TWO_TUNES);
        y.known(0, 6, true);
        due("rows(-1)", y.rows(-1), 343);
        due("rows(0)", y.rows(0), 1);
        y.untell(0);
        due("rows(0)", y.rows(0), 343);
    }

    // ---- promise 43

    /** An object at a TIME so many thousands on, and some. */
    private static TuneApproval at(int time) {
        TuneApproval x = told(TWO_TUNES);
        for (int i = 0; i < time / 1000; i++) {
            x.later(1000);
        }
        due("later", x.later(time % 1000), time);
        return x;
    }

    private static void laters() {
        promise(43);
        for (int by : new int[] {-1, 1001, 1002, -1000, MIN, MAX}) {
            nothing("later(" + by + ")", x -> x.later(by), NONE);
        }
        due("later(0)", new TuneApproval().later(0), 0);
        due("later(1)", new TuneApproval().later(1), 1);
        due("later(999)", new TuneApproval().later(999), 999);
        due("later(1000)", new TuneApproval().later(1000), 1000);
        due("later(1000) to 100000", at(99000).later(1000), 100000);
        due("later(1) to 100000", at(99999).later(1), 100000);
        due("later(0) at 100000", at(100000).later(0), 100000);
        doesNothing("later(1000) beyond", () -> at(99001), x -> x.later(1000), NONE);
        doesNothing("later(2) beyond", () -> at(99999), x -> x.later(2), NONE);
        doesNothing("later(1) beyond", () -> at(100000), x -> x.later(1), NONE);
        doesNothing("later(1000) beyond", () -> at(100000), x -> x.later(1000), NONE);
        // what is told at the last TIME counts then
        TuneApproval y = at(100000);
        y.known(0, 6, true);
        due("rows(99999)", y.rows(99999), 343);
        due("rows(100000)", y.rows(100000), 1);
        due("rows(100001)", y.rows(100001), 1);
    }

    // ---- promise 44

    private static void rowsAtTheEdges() {
        promise(44);
        due("rows(0) of none", new TuneApproval().rows(0), 0);
        due("rows(0) without houses", told(TUNE_A).rows(0), 0);
        due("rows(0) without tunes", told(HOUSE_A).rows(0), 343);
        TuneApproval x = told(TWO_TUNES);
        for (int k : new int[] {MIN, -1, 0, 1, MAX}) {
            due("rows(" + k + ")", x.rows(k), 343);
        }
        x.later(1);
        x.known(1, 3, true);
        x.later(1);
        x.known(1, 6, false);
        x.later(1);
        x.untell(0);
        due("rows(MIN)", x.rows(MIN), 343);
        due("rows(0)", x.rows(0), 343);
        due("rows(1)", x.rows(1), 6);
        due("rows(2)", x.rows(2), 5);
        due("rows(3)", x.rows(3), 342);
        due("rows(MAX)", x.rows(MAX), 342);
        // going on in TIME changes nothing of what was
        x.later(1000);
        due("rows(2)", x.rows(2), 5);
    }

    private static void ofTheLaneAsTold() {
        promise(44);
        // purse 4 of the last house, price 5, nothing worn, weeks 0, three notes left
        TuneApproval x = told("approval 9;tune a price 5 notes 0 0 0 0;" + HOUSE_A + "house b at 0 purse 4 likes 6 6 6;"
                + "glad purse*100+worn*10+weeks*20+long;");
        x.known(0, 404, true);
        x.known(0, 405, false);
        due("rows(0)", x.rows(0), 343);
        x.fill(1, 50);
        x.bring(0, 1);
        x.week();
        x.week();
        due("glad(1, 0)", x.glad(1, 0), 5444);
        due("rows(0)", x.rows(0), 343);
        for (int i = 0; i < 7; i++) {
            x.week();
        }
        due("paid for", x.tune(0, 4), 1);
        due("rows(0)", x.rows(0), 343);
        // worn ones are as they were told, too: all their notes count
        TuneApproval y = told("tune a price 9 notes 5 0 0 0;house a at 0 purse 0 likes 1 1 1;glad same;");
        due("known", y.known(0, 4, true), 0);
        due("rows(0)", y.rows(0), 36);
        y.bring(0, 0);
        y.week();
        due("tune(0, 1)", y.tune(0, 1), 3);
        due("rows(0)", y.rows(0), 36);
        // the three that are told of the last house count for nothing
        TuneApproval z = told("tune a price 0 notes 6 6 6;house a at 0 purse 0 likes 6 6 6;");
        z.known(0, 6, false);
        due("rows(0)", z.rows(0), 342);
    }

    // ---- promise 45

    private static void sures() {
        promise(45);
        due("sure(0, 0) of none", new TuneApproval().sure(0, 0), NONE);
        due("sure(0, 0) without houses", told(TUNE_A).sure(0, 0), NONE);
        due("sure(0, 0) without tunes", told(HOUSE_A).sure(0, 0), -2);
        for (int i : new int[] {-1, 3, MIN, MAX}) {
            nothing("sure(" + i + ", 0)", x -> x.sure(i, 0), NONE);
        }
        for (int i = 0; i < 3; i++) {
            int place = i;
            nothing("sure(" + i + ", 0)", x -> x.sure(place, 0), -2);
        }
        // turns in both: 5 1 2 and 5 1 3
        TuneApproval x = told("tune a price 0 notes 5 1 2 5 1 3;tune b price 0 notes 5 1 2 4 5 1 3;tune c price 0 notes 0 5 1 3;"
                + HOUSE_A + "glad turn;");
        x.known(0, 1, true);
        due("rows(0)", x.rows(0), 4);
        for (int i = 0; i < 3; i++) {
            due("sure(" + i + ", 0)", x.sure(i, 0), -2);
        }
        x.later(1);
        x.known(1, 1, true);
        due("rows(1)", x.rows(1), 2);
        due("sure(0, 1)", x.sure(0, 1), 5);
        due("sure(1, 1)", x.sure(1, 1), 1);
        due("sure(2, 1)", x.sure(2, 1), -2);
        due("sure(0, 0)", x.sure(0, 0), -2);
        x.later(1);
        x.known(2, 1, true);
        due("sure(2, 2)", x.sure(2, 2), 3);
        due("sure(3, 2)", x.sure(3, 2), NONE);
        due("sure(-1, 2)", x.sure(-1, 2), NONE);
        x.later(1);
        x.known(2, 1, false);
        due("rows(3)", x.rows(3), 0);
        for (int i = 0; i < 3; i++) {
            due("sure(" + i + ", 3)", x.sure(i, 3), NONE);
        }
        due("sure(2, 2)", x.sure(2, 2), 3);
    }

    private static void sureOfTheFirstAndLastNotes() {
        promise(45);
        for (int note = 0; note <= 6; note++) {
            TuneApproval x = told("tune a price 0 notes " + note + " " + note + " " + note + ";" + HOUSE_A);
            x.known(0, 6, true);
            for (int i = 0; i < 3; i++) {
                due("sure(" + i + ", 0)", x.sure(i, 0), note);
            }
        }
    }

    // ---- promise 46

    private static void asks() {
        promise(46);
        for (int what : new int[] {-1, 2, MIN, MAX}) {
            nothing("ask(" + what + ", 0)", x -> x.ask(what, 0), NONE);
        }
        due("ask(0, 0) of none", new TuneApproval().ask(0, 0), NONE);
        due("ask(0, 0) without houses", told(TUNE_A).ask(0, 0), NONE);
        due("ask(0, 0) without tunes", told(HOUSE_A).ask(0, 0), NONE);
        due("ask(1, 0) without tunes", told(HOUSE_A).ask(1, 0), NONE);
        TuneApproval x = told(TWO_TUNES);
        due("ask(0, 0)", x.ask(0, 0), 1);
        due("ask(1, 0)", x.ask(1, 0), 183);
        // all come to one: nothing is learnt by any, the first
        TuneApproval y = told(TWO_TUNES + "glad 7;");
        due("ask(0, 0)", y.ask(0, 0), 0);
        due("ask(1, 0)", y.ask(1, 0), 343);
        // beyond 9,999 all come to 9,999
        TuneApproval z = told(TWO_TUNES + "glad 9999+same;");
        due("ask(1, 0)", z.ask(1, 0), 343);
        // one row left, none left
        x.later(1);
        x.known(0, 6, true);
        due("ask(0, 1)", x.ask(0, 1), 0);
        due("ask(1, 1)", x.ask(1, 1), 1);
        x.later(1);
        x.known(1, 1, true);
        due("ask(0, 2)", x.ask(0, 2), NONE);
        due("ask(1, 2)", x.ask(1, 2), NONE);
        due("ask(0, 1)", x.ask(0, 1), 0);
        due("ask(0, 0)", x.ask(0, 0), 1);
    }

    private static void asksOfFive() {
        promise(46);
        // the last two part them alike: the first of these
        TuneApproval x = told("tune a price 0 notes 0 0 0;tune b price 0 notes 0 0 0;tune c price 0 notes 1 1 1;"
                + "tune d price 0 notes 1 2 3;tune e price 0 notes 3 2 1;" + HOUSE_A);
        due("ask(0, 0)", x.ask(0, 0), 3);
        due("ask(1, 0)", x.ask(1, 0), 183);
        // rows without 1: 6 come to 1, 90 to 2, 120 to 3; rows with 1, which counts twice: 1 comes to 2, 36 to 3, 90 to 4;
        // but for the turns: 1 2 3 and 6 0 1 come to 7, 2 3 4, 3 4 5, 4 5 6 and 5 6 0 to 6; so 120 - 4 + 36 come to 3
        TuneApproval y = told("tune a price 0 notes 1 2 3 4 5 6 0 1;" + HOUSE_A);
        due("ask(0, 0)", y.ask(0, 0), 0);
        due("ask(1, 0)", y.ask(1, 0), 152);
        // twelve different ones, of which the most, 4 * 4 * 4 rows without 0, 1 and 2, come last
        TuneApproval z = told("tune a price 0 notes 1 0 1 2 0 0 0 0;" + HOUSE_A + "glad same+turn*100;");
        due("ask(1, 0)", z.ask(1, 0), 64);
    }

    // ---- promises 47 and 48

    private static void images() {
        promise(47);
        for (int box : new int[] {-1, 3, MIN, MAX}) {
            nothing("image(" + box + ")", x -> x.image(box), NONE);
        }
        TuneApproval x = told(HOUSE_A);
        for (int box = 0; box < 3; box++) {
            due("image(" + box + ")", x.image(box), box);
            x.week();
        }
        due("about(7), no act", x.about(7), 3);
        promise(48);
        for (int box = 2; box >= 0; box--) {
            due("restore(" + box + ")", x.restore(box), box);
            due("about(5)", x.about(5), box);
        }
        // what is kept anew takes the place of what was
        promise(47);
        due("restore(2)", x.restore(2), 2);
        due("image(0)", x.image(0), 2);
        x.week();
        due("restore(0)", x.restore(0), 2);
        due("restore(1)", x.restore(1), 1);
    }

    private static void imagesOfAll() {
        promise(48);
        // one worn and on approval for a week, one paid for, purses and the seed moved
        TuneApproval x = told("approval 2;hums 0;draw 7;tune a price 9 notes 1 2 3 4;tune b price 1 notes 1 2 3;"
                + "house a at 0 purse 3 likes 1 2 3;house b at 0 purse 4 likes 1 2 3;");
        x.bring(0, 0);
        x.bring(1, 1);
        x.week();
        x.week();
        x.bring(0, 1);
        x.week();
        x.fill(0, 7);
        due("image(2)", x.image(2), 3);
        int[][] tunes = {{9, 3, 1, 1, 0, 1}, {1, 3, 0, 1, 1, 0}};
        int seed = x.about(6);
        x.week();
        x.give(1);
        x.fill(1, 50);
        x.week();
        due("restore(2)", x.restore(2), 3);
        for (int tune = 0; tune < 2; tune++) {
            for (int what = 0; what < 6; what++) {
                due("tune(" + tune + ", " + what + ")", x.tune(tune, what), tunes[tune][what]);
            }
        }
        due("house(0, 1)", x.house(0, 1), 10);
        due("house(1, 1)", x.house(1, 1), 3);
        due("about(5)", x.about(5), 3);
        // 7 -> 30 -> 181 -> 868 -> 987 -> 290
        due("about(6)", x.about(6), 290);
        due("about(6)", seed, 290);
        due("about(7)", x.about(7), 0);
        due("about(8)", x.about(8), 0);
        due("undo()", x.undo(), false);
        due("redo()", x.redo(), false);
        // gone on from, and back once more
        due("week()", x.week(), 0);
        due("undo()", x.undo(), true);
        due("restore(2)", x.restore(2), 3);
        due("redo()", x.redo(), false);
    }

    /** Five tunes and four houses, of which no two numbers are alike. */
    private static TuneApproval fullHouse() {
        TuneApproval x = told("approval 4;tune a price 99 notes 0 0 0 0 0 0 0 0;tune b price 99 notes 0 0 0 0 0 0 0 0;tune c price 99 notes 0 0 0;"
                + "tune d price 5 notes 0 0 0;tune e price 0 notes 0 0 0;house a at 0 purse 11 likes 0 0 0;house b at 0 purse 22 likes 0 0 0;"
                + "house c at 0 purse 33 likes 0 0 0;house d at 0 purse 44 likes 0 0 0;draw 1;glad 1;");
        for (int worn = 0; worn < 3; worn++) {
            x.bring(0, 3);
            if (worn > 0) {
                x.bring(1, 2);
            }
            if (worn > 1) {
                x.bring(3, 1);
            }
            for (int week = 0; week < 4; week++) {
                x.week();
            }
        }
        x.bring(1, 3);
        x.week();
        x.bring(0, 0);
        x.week();
        return x;
    }

    private static void fullHouseIs(TuneApproval x) {
        int[][] tunes = {{99, 5, 3, 0, 0, 1}, {99, 6, 2, 3, 0, 2}, {99, 3, 0, -1, 0, 0}, {5, 3, 0, 1, 1, 0}, {0, 3, 0, -1, 0, 0}};
        int[] purses = {11, 17, 33, 44};
        for (int tune = 0; tune < 5; tune++) {
            for (int what = 0; what < 6; what++) {
                due("tune(" + tune + ", " + what + ")", x.tune(tune, what), tunes[tune][what]);
            }
        }
        for (int house = 0; house < 4; house++) {
            due("house(" + house + ", 1)", x.house(house, 1), purses[house]);
        }
        due("about(5)", x.about(5), 14);
    }

    private static void restoredAndUndoneInFull() {
        promise(48);
        TuneApproval x = fullHouse();
        fullHouseIs(x);
        int seed = x.about(6);
        x.image(2);
        x.image(0);
        put(x, "?");
        for (int box = 0; box < 3; box += 2) {
            x.fill(3, 50);
            x.week();
            x.fetch(0);
            x.bring(4, 0);
            x.give(3);
            due("restore(" + box + ")", x.restore(box), 14);
            fullHouseIs(x);
            due("about(6)", x.about(6), seed);
        }
        promise(15);
        TuneApproval y = fullHouse();
        y.fill(3, 50);
        y.week();
        y.fetch(0);
        y.bring(4, 0);
        y.give(3);
        for (int i = 0; i < 5; i++) {
            due("undo()", y.undo(), true);
        }
        fullHouseIs(y);
        due("about(6)", y.about(6), seed);
    }

    private static void restoresOfNothing() {
        promise(48);
        for (int box : new int[] {0, 2, -1, 3, MIN, MAX}) {
            nothing("restore(" + box + ")", x -> x.restore(box), NONE);
        }
        for (int box = 0; box < 3; box++) {
            due("restore(" + box + ") of none", new TuneApproval().restore(box), NONE);
        }
        // what was kept of one lane is not there in the next; a faulty one leaves it
        TuneApproval x = busy();
        x.end(0);
        put(x, "?");
        x.lane();
        due("restore(1)", x.restore(1), 1);
        x.end(0);
        put(x, LANE);
        x.lane();
        due("restore(1)", x.restore(1), NONE);
    }

    private static void imagesLeaveTheRest() {
        promise(48);
        TuneApproval x = busy();
        due("restore(1)", x.restore(1), 1);
        due("about(9)", x.about(9), 2);
        due("about(10)", x.about(10), 8);
        due("about(11)", x.about(11), 7);
        lie(x, 1, 0, 2);
        promise(47);
        TuneApproval y = busy();
        due("image(0)", y.image(0), 2);
        due("about(7)", y.about(7), 3);
        due("about(8)", y.about(8), 1);
        due("redo()", y.redo(), true);
    }

    // ---- promise 49

    private static void abouts() {
        promise(49);
        for (int what : new int[] {-1, 15, 16, MIN, MAX}) {
            nothing("about(" + what + ")", x -> x.about(what), NONE);
        }
        TuneApproval x = busy();
        // 7 -> 30 -> 181
        int[] all = {3, 3, 2, 3, 4, 2, 181, 3, 1, 2, 8, 7, 0, 3, 0};
        for (int what = 0; what < all.length; what++) {
            due("about(" + what + ")", x.about(what), all[what]);
        }
    }

    public static void main(String[] args) {
        knownsThatCantBe();
        thirtyAreKnown();
        gladAtLeast();
        untold();
        toldAndUntoldAtOneTime();
        laters();
        rowsAtTheEdges();
        ofTheLaneAsTold();
        sures();
        sureOfTheFirstAndLastNotes();
        asks();
        asksOfFive();
        images();
        imagesOfAll();
        restoredAndUndoneInFull();
        restoresOfNothing();
        imagesLeaveTheRest();
        abouts();
        report("KnownEdgesTest");
    }
}
