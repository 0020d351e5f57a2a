/** Each promise of the document by its number: ordinary inputs, edges, wrong inputs; all answers worked out by hand. */
public final class PromisesTest extends Checks {
    private static void newObject() {
        promise(1);
        TuneApproval x = new TuneApproval();
        int[] all = {0, 0, 1, 0, 0, 0, 0, 0, 0, 0, 0, 0, 0, 0, 0};
        for (int what = 0; what < all.length; what++) {
            due("about(" + what + ")", x.about(what), all[what]);
        }
        due("NONE", TuneApproval.NONE, -1);
        due("lies(0)", x.lies(0), -2);
    }

    private static void feed() {
        promise(2);
        TuneApproval x = new TuneApproval();
        for (int i = 1; i <= 80; i++) {
            due("feed", x.feed(0, -1, MIN, MAX, 7), 20 * i);
        }
        due("feed", x.feed(0, 0, 0, 0, 0), NONE);
        due("about(11)", x.about(11), 1600);
        due("end", x.end(1581), 1581);
        due("feed", x.feed(0, 0, 0, 0, 0), NONE);
        due("about(11)", x.about(11), 1581);
        due("end", x.end(1580), 1580);
        due("feed", x.feed(0, 0, 0, 0, 0), 1600);
        // "hums 7;" from the highest byte of each number on
        TuneApproval y = new TuneApproval();
        y.feed(0x68756d73, 0x20373b20, 0x20202020, 0x0a0a0a0a, 0x20202020);
        due("lane()", y.lane(), 0);
        due("about(14)", y.about(14), 7);
    }

    private static void end() {
        promise(3);
        TuneApproval x = new TuneApproval();
        due("end(0)", x.end(0), 0);
        due("end(1)", x.end(1), NONE);
        due("end(-1)", x.end(-1), NONE);
        x.feed(0x68756d73, 0x20373b20, 0, 0, 0);
        due("end(21)", x.end(21), NONE);
        due("end(MIN)", x.end(MIN), NONE);
        due("about(11)", x.about(11), 20);
        due("end(7)", x.end(7), 7);
        due("end(8)", x.end(8), NONE);
        due("lane()", x.lane(), 0);
        due("about(14)", x.about(14), 7);
    }

    private static void lane() {
        promise(4);
        TuneApproval x = told(LANE);
        due("about(11)", x.about(11), 0);
        x.later(5);
        x.known(0, 1, true);
        x.bring(0, 0);
        x.week();
        x.walk(0);
        x.image(0);
        put(x, "hums 101;");
        due("lane()", x.lane(), NONE);
        due("about(0)", x.about(0), 3);
        due("about(5)", x.about(5), 1);
        due("about(7)", x.about(7), 2);
        due("about(9)", x.about(9), 1);
        due("about(11)", x.about(11), 9);
        due("about(13)", x.about(13), 3);
        due("restore(0)", x.restore(0), 1);
        x.end(6);
        put(x, "0;" + HOUSE_A);
        due("lane()", x.lane(), 1);
        due("about(14)", x.about(14), 10);
        due("about(5)", x.about(5), 0);
        due("about(7)", x.about(7), 0);
        due("about(9)", x.about(9), 0);
        due("about(10)", x.about(10), 5);
        due("about(13)", x.about(13), 0);
        due("restore(0)", x.restore(0), NONE);
        due("lane()", x.lane(), 0);
        due("about(2)", x.about(2), 1);
        due("about(14)", x.about(14), 0);
    }

    private static void faults() {
        promise(5);
        TuneApproval x = new TuneApproval();
        due("fault(0)", x.fault(0), 0);
        due("fault(1)", x.fault(1), NONE);
        due("fault(2)", x.fault(2), NONE);
        due("fault(-1)", x.fault(-1), NONE);
        fine("", 0);
        fine(" \n ", 0);
        fine("approval9;hums100;draw999;", 0);
        fine("approval\n0001 ;hums 0;draw 0;", 0);
        fine("tune abcdefgh price 99 notes 0 1 2 3 4 5 6 0;house abcdefgh at 99 purse 99 likes 6 6 6;", 1);
        tokens();
        standing();
        names();
        numbers();
    }

    private static void tokens() {
        faulty("?", 1, 0);
        faulty("  \t", 1, 2);
        faulty("Hums 3;", 1, 0);
        faulty("hums 3\u00e9;", 1, 6);
        faulty("hums 3\r;", 1, 6);
        faulty("hums 3;:", 1, 7);
        faulty("tune abcdefghi price", 1, 5);
        faulty("hums 00001;", 1, 5);
        faulty("hums 3a;", 1, 5);
        faulty("hums 999 ?", 4, 5);
        cut("hums 35;", 6, 6);
        cut("glad 1;", 3, 0);
        faulty(";".repeat(1600), 2, 0);
        faulty("hums 3" + " ".repeat(1594), 2, 1600);
        faulty("a".repeat(1600), 1, 0);
        faulty("1".repeat(1600), 1, 0);
        fine("tune dune price 1 notes 1 2 3;tune hot price 1 notes 1 2 3;tune a price 1 notes 1 2 3;"
                + "tune aa price 1 notes 1 2 3;tune ab price 1 notes 1 2 3;", 0);
        fine("\n".repeat(1600), 0);
    }

    /** What stands on the tape behind its end counts for nothing. */
    private static void cut(String text, int length, int place) {
        TuneApproval x = new TuneApproval();
        put(x, text);
        x.end(length);
        due("lane of " + text + " cut", x.lane(), NONE);
        due("fault(0) of " + text + " cut", x.fault(0), 2);
        due("fault(1) of " + text + " cut", x.fault(1), place);
    }

    private static void standing() {
        faulty("hums", 2, 4);
        faulty("hums \n", 2, 6);
        faulty("hums 3", 2, 6);
        faulty("hums 3 4;", 2, 7);
        faulty(";", 2, 0);
        faulty("price 3;", 2, 0);
        faulty("hello;", 2, 0);
        faulty("hums 3;hums 3;", 2, 7);
        faulty("draw 3;draw 1000;", 2, 7);
        faulty("approval 1;approval 1;", 2, 11);
        faulty("glad 1;glad ?", 2, 7);
        faulty("tune price price 3 notes 1 2 3;", 2, 5);
        faulty("tune 3 price 3 notes 1 2 3;", 2, 5);
        faulty("tune a at 3;", 2, 7);
        faulty("tune a price 3 notes 1 2;", 2, 24);
        faulty("tune a price 3 notes 1 2 3 4 5 6 0 1 2;", 2, 37);
        faulty("tune a price 3 notes 1 2 3 4 5 6 0 1 9;", 2, 37);
        faulty("house a at 3 purse 3 likes 1 2 3 4;", 2, 33);
        faulty("house likes at 3", 2, 6);
        String five = "tune a price 0 notes 0 0 0;tune b price 0 notes 0 0 0;tune c price 0 notes 0 0 0;"
                + "tune d price 0 notes 0 0 0;tune e price 0 notes 0 0 0;";
        fine(five, 0);
        faulty(five + "tune a", 2, 135);
        String four = "house a at 0 purse 0 likes 0 0 0;house b at 0 purse 0 likes 0 0 0;"
                + "house c at 0 purse 0 likes 0 0 0;house d at 0 purse 0 likes 0 0 0;";
        fine(four, 4);
        faulty(four + "house e", 2, 132);
        formulas();
    }

    private static void formulas() {
        fine("glad not same<3 and turn or long=5;", 0);
        fine("glad not not not not not not not same;", 0);
        fine("glad(((((((same)))))));", 0);
        fine("glad not(not(not(not same+1)));", 0);
        faulty("glad not not not not not not not not same;", 2, 33);
        faulty("glad((((((((same))))))));", 2, 11);
        faulty("glad not(not(not(not(same))));", 2, 20);
        faulty("glad ;", 2, 5);
        faulty("glad 1+;", 2, 7);
        faulty("glad 1<2<3;", 2, 8);
        faulty("glad 1+not 2;", 2, 7);
        faulty("glad -1;", 2, 5);
        faulty("glad (1;", 2, 7);
        faulty("glad 1);", 2, 6);
        faulty("glad ();", 2, 6);
        faulty("glad notes;", 2, 5);
        faulty("glad a;", 2, 5);
        faulty("glad 10000;", 1, 5);
        StringBuilder thirty = new StringBuilder("glad 1");
        for (int i = 1; i < 30; i++) {
            thirty.append("+1");
        }
        fine(thirty + ";", 0);
        faulty(thirty + "+1;", 2, 65);
        faulty(thirty + "+(1);", 2, 65);
        faulty(thirty + "+?;", 1, 65);
        due("units", told("glad (1+(same))*2;").about(12), 5);
    }

    private static void names() {
        fine("tune a price 0 notes 0 0 0;house a at 0 purse 0 likes 0 0 0;", 1);
        faulty(TUNE_A + "tune a ?", 3, 32);
        faulty(HOUSE_A + "house b at 1 purse 1 likes 1 1 1;house a", 3, 72);
    }

    private static void numbers() {
        faulty("approval 0", 4, 9);
        faulty("approval 10;", 4, 9);
        faulty("hums 101;", 4, 5);
        faulty("draw 1000;", 4, 5);
        faulty("tune a price 100", 4, 13);
        faulty("tune a price 3 notes 7", 4, 21);
        faulty("tune a price 3 notes 1 2 3 9999;", 4, 27);
        faulty("house a at 100", 4, 11);
        faulty("house a at 1 purse 100", 4, 19);
        faulty("house a at 1 purse 1 likes 1 2 7", 4, 31);
        TuneApproval x = new TuneApproval();
        put(x, "hums 101;");
        x.lane();
        due("fault(0)", x.fault(0), 4);
        x.end(0);
        x.lane();
        due("fault(0)", x.fault(0), 0);
        due("fault(1)", x.fault(1), NONE);
    }

    private static void tune() {
        promise(6);
        TuneApproval x = told(LANE);
        int[] all = {10, 5, 0, -1, 0, 0};
        for (int what = 0; what < 6; what++) {
            due("tune(0, " + what + ")", x.tune(0, what), all[what]);
        }
        due("tune(0, 6)", x.tune(0, 6), -2);
        due("tune(0, -1)", x.tune(0, -1), -2);
        due("tune(3, 0)", x.tune(3, 0), -2);
        due("tune(-1, 0)", x.tune(-1, 0), -2);
        x.bring(0, 1);
        x.week();
        due("tune(0, 3)", x.tune(0, 3), 1);
        due("tune(0, 5)", x.tune(0, 5), 1);
        x.week();
        int[] back = {10, 4, 1, -1, 0, 0};
        for (int what = 0; what < 6; what++) {
            due("tune(0, " + what + ")", x.tune(0, what), back[what]);
        }
        x.bring(2, 0);
        x.week();
        x.week();
        int[] paid = {7, 4, 0, 0, 1, 0};
        for (int what = 0; what < 6; what++) {
            due("tune(2, " + what + ")", x.tune(2, what), paid[what]);
        }
    }

    private static void note() {
        promise(7);
        TuneApproval x = told(LANE);
        for (int i = 0; i < 5; i++) {
            due("note(0, " + i + ")", x.note(0, i), i + 1);
        }
        due("note(0, 5)", x.note(0, 5), NONE);
        due("note(0, -1)", x.note(0, -1), NONE);
        due("note(3, 0)", x.note(3, 0), NONE);
        due("note(MIN, 0)", x.note(MIN, 0), NONE);
        for (int times = 0; times < 4; times++) {
            x.bring(0, 2);
            x.week();
            x.week();
        }
        // worn four times, three notes are left: the last ones
        due("tune(0, 2)", x.tune(0, 2), 4);
        due("note(0, 0)", x.note(0, 0), 3);
        due("note(0, 2)", x.note(0, 2), 5);
        due("note(0, 3)", x.note(0, 3), NONE);
    }

    private static void house() {
        promise(8);
        TuneApproval x = told(LANE);
        int[] all = {2, 9, -1, 0};
        for (int what = 0; what < 4; what++) {
            due("house(1, " + what + ")", x.house(1, what), all[what]);
        }
        due("house(1, 4)", x.house(1, 4), -2);
        due("house(1, -1)", x.house(1, -1), -2);
        due("house(3, 0)", x.house(3, 0), -2);
        due("house(-1, 0)", x.house(-1, 0), -2);
        x.bring(1, 1);
        due("house(1, 2)", x.house(1, 2), 1);
        x.week();
        x.week();
        due("house(1, 1)", x.house(1, 1), 5);
        due("house(1, 2)", x.house(1, 2), -1);
        due("house(1, 3)", x.house(1, 3), 2);
    }

    private static void glad() {
        promise(9);
        TuneApproval x = told(LANE);
        int[] low = {6, 3, 6};
        int[] mid = {2, 6, 2};
        int[] top = {0, 0, 1};
        for (int tune = 0; tune < 3; tune++) {
            due("glad(0, " + tune + ")", x.glad(0, tune), low[tune]);
            due("glad(1, " + tune + ")", x.glad(1, tune), mid[tune]);
            due("glad(2, " + tune + ")", x.glad(2, tune), top[tune]);
        }
        due("glad(3, 0)", x.glad(3, 0), NO_GLAD);
        due("glad(0, 3)", x.glad(0, 3), NO_GLAD);
        due("glad(-1, -1)", x.glad(-1, -1), NO_GLAD);
        gladBy("same", 6);
        gladBy("turn", 1);
        gladBy("long*100+worn*10+weeks", 800);
        gladBy("price-purse", 31);
        gladBy("9999+1", 9999);
        gladBy("0-9999-1", -9999);
        gladBy("7/2*10+7%4", 33);
        gladBy("(0-7)/2*10+(0-7)%4", -33);
        gladBy("5/0+5%0+1", 1);
        gladBy("9999*9999*9999/9999", 9999 * 9999 * 9999 / 9999);
        gladBy("9999*9999*9999/9999/9", 9999 * 9999 * 9999 / 9999 / 9);
        gladBy("9999*9999*9999*9999%1000", 9999 * 9999 * 9999 * 9999 % 1000);
        gladBy("2 and 3", 1);
        gladBy("0 or 0", 0);
        gladBy("5", 5);
        gladBy("not 5", 0);
        gladBy("not not 5", 1);
        gladBy("1<2 and not 2>3 and 2=2", 1);
        gladBy("1 or 0 and 0", 1);
        gladBy("1-2-3", -4);
        gladBy("2+3*4", 14);
        gladBy("(2+3)*4", 20);
        gladBy("12/3/2*5%7", 3);
        gladBy("1+1=2", 1);
        gladBy("not 1=2", 1);
    }

    /** The tune has 8 notes, 6 of which are 1 or 2, and the turn 1 2 2. */
    private static void gladBy(String formula, int want) {
        TuneApproval x = told("tune a price 40 notes 1 2 2 0 1 1 2 5;house a at 0 purse 9 likes 1 2 2;glad "
                + formula + ";");
        due("glad by " + formula, x.glad(0, 0), Math.max(-9999, Math.min(9999, want)));
    }

    private static void gladByWeeks() {
        promise(9);
        TuneApproval x = told("approval 9;tune a price 0 notes 1 2 3 4;" + HOUSE_A + "house b at 0 purse 0 likes 0 0 0;"
                + "glad weeks*10+worn;");
        x.bring(0, 0);
        x.week();
        x.week();
        due("glad(0, 0)", x.glad(0, 0), 20);
        due("glad(1, 0)", x.glad(1, 0), 0);
        for (int i = 0; i < 7; i++) {
            x.week();
        }
        due("paid", x.tune(0, 4), 1);
        due("glad(0, 0)", x.glad(0, 0), 0);
    }

    private static void week() {
        promise(10);
        TuneApproval x = told(LANE);
        due("week()", x.week(), 0);
        due("about(6)", x.about(6), 7);
        x.bring(2, 0);
        x.bring(1, 2);
        due("week()", x.week(), 0);
        // 7 -> 30 -> 181
        due("about(6)", x.about(6), 181);
        due("week()", x.week(), 1);
        // 181 -> 868 -> 987
        due("about(6)", x.about(6), 987);
        due("about(5)", x.about(5), 3);
        due("house(0, 1)", x.house(0, 1), 5);
        due("tune(2, 4)", x.tune(2, 4), 1);
        due("tune(1, 2)", x.tune(1, 2), 1);
        due("tune(1, 3)", x.tune(1, 3), -1);
        hums();
        purseDecides();
    }

    private static void hums() {
        TuneApproval x = told(TUNE_A + HOUSE_A + "hums 100;");
        x.bring(0, 0);
        for (int i = 1; i <= 20; i++) {
            due("week()", x.week(), 0);
            due("tune(0, 5)", x.tune(0, 5), i);
        }
        // draw 3 comes to 482; less than 83 is hummed, less than 82 is not
        TuneApproval y = told(TUNE_A + HOUSE_A + "draw 3;hums 83;");
        y.bring(0, 0);
        due("week()", y.week(), 0);
        due("about(6)", y.about(6), 482);
        TuneApproval z = told(TUNE_A + HOUSE_A + "draw 3;hums 82;");
        z.bring(0, 0);
        due("week()", z.week(), 1);
    }

    private static void purseDecides() {
        String rest = "house a at 0 purse 5 likes 1 2 3;";
        TuneApproval x = told("tune a price 5 notes 1 2 3;" + rest);
        x.bring(0, 0);
        due("week()", x.week(), 1);
        due("house(0, 1)", x.house(0, 1), 0);
        TuneApproval y = told("tune a price 6 notes 1 2 3;" + rest);
        y.bring(0, 0);
        due("week()", y.week(), 0);
        due("tune(0, 2)", y.tune(0, 2), 1);
        TuneApproval z = told("tune a price 5 notes 4 4 4;" + rest);
        z.bring(0, 0);
        due("week()", z.week(), 0);
        TuneApproval w = told("tune a price 0 notes 1 2 3;" + rest + "glad 0;");
        for (int i = 1; i <= 101; i++) {
            w.bring(0, 0);
            w.week();
            due("tune(0, 2)", w.tune(0, 2), Math.min(99, i));
        }
    }

    private static void bring() {
        promise(11);
        TuneApproval x = told(LANE);
        due("bring(2, 0)", x.bring(2, 0), 6);
        due("bring(2, 1)", x.bring(2, 1), NO_GLAD);
        due("bring(0, 0)", x.bring(0, 0), NO_GLAD);
        due("bring(3, 1)", x.bring(3, 1), NO_GLAD);
        due("bring(0, 3)", x.bring(0, 3), NO_GLAD);
        due("bring(-1, 1)", x.bring(-1, 1), NO_GLAD);
        due("about(7)", x.about(7), 1);
        x.week();
        x.week();
        due("bring(2, 1), paid for", x.bring(2, 1), NO_GLAD);
        due("bring(0, 0), one paid for", x.bring(0, 0), 6);
    }

    private static void fetch() {
        promise(12);
        TuneApproval x = told(LANE);
        due("fetch(0)", x.fetch(0), NONE);
        x.bring(0, 2);
        x.week();
        due("fetch(0)", x.fetch(0), 2);
        due("tune(0, 2)", x.tune(0, 2), 0);
        due("tune(0, 3)", x.tune(0, 3), -1);
        due("tune(0, 5)", x.tune(0, 5), 0);
        due("about(7)", x.about(7), 3);
        due("fetch(0)", x.fetch(0), NONE);
        due("fetch(3)", x.fetch(3), NONE);
        due("fetch(-1)", x.fetch(-1), NONE);
        due("about(7)", x.about(7), 3);
    }

    private static void give() {
        promise(13);
        TuneApproval x = told(LANE);
        x.bring(2, 0);
        due("give(2)", x.give(2), NONE);
        x.week();
        x.week();
        due("fetch(2)", x.fetch(2), NONE);
        due("give(2)", x.give(2), 0);
        due("house(0, 1)", x.house(0, 1), 5);
        due("about(4)", x.about(4), 0);
        due("about(3)", x.about(3), 7);
        due("give(2)", x.give(2), NONE);
        due("give(3)", x.give(3), NONE);
        due("give(-1)", x.give(-1), NONE);
        due("about(7)", x.about(7), 4);
    }

    private static void fill() {
        promise(14);
        TuneApproval x = told(LANE);
        due("fill(0, 1)", x.fill(0, 1), 13);
        due("fill(0, 50)", x.fill(0, 50), 63);
        due("fill(0, 51)", x.fill(0, 51), NONE);
        due("fill(0, 0)", x.fill(0, 0), NONE);
        due("fill(0, -1)", x.fill(0, -1), NONE);
        due("fill(3, 1)", x.fill(3, 1), NONE);
        due("fill(-1, 1)", x.fill(-1, 1), NONE);
        due("about(7)", x.about(7), 2);
        for (int i = 0; i < 18; i++) {
            x.fill(0, 50);
        }
        due("fill(0, 50)", x.fill(0, 50), 999);
        due("fill(0, 1)", x.fill(0, 1), NONE);
    }

    private static void undo() {
        promise(15);
        TuneApproval x = told(LANE);
        due("undo()", x.undo(), false);
        x.bring(2, 0);
        x.week();
        x.week();
        due("undo()", x.undo(), true);
        due("tune(2, 5)", x.tune(2, 5), 1);
        due("house(0, 1)", x.house(0, 1), 12);
        due("about(6)", x.about(6), 30);
        due("about(5)", x.about(5), 1);
        due("undo()", x.undo(), true);
        due("undo()", x.undo(), true);
        due("undo()", x.undo(), false);
        due("tune(2, 3)", x.tune(2, 3), -1);
        due("about(8)", x.about(8), 3);
        for (int i = 0; i < 45; i++) {
            x.fill(1, 1);
        }
        due("about(7)", x.about(7), 40);
        for (int i = 0; i < 40; i++) {
            due("undo()", x.undo(), true);
        }
        due("undo()", x.undo(), false);
        due("house(1, 1)", x.house(1, 1), 14);
    }

    private static void redo() {
        promise(16);
        TuneApproval x = told(LANE);
        due("redo()", x.redo(), false);
        x.bring(2, 0);
        x.week();
        x.week();
        due("redo()", x.redo(), false);
        x.undo();
        x.undo();
        due("redo()", x.redo(), true);
        due("tune(2, 5)", x.tune(2, 5), 1);
        due("redo()", x.redo(), true);
        due("tune(2, 4)", x.tune(2, 4), 1);
        due("redo()", x.redo(), false);
        x.undo();
        due("a wrong act", x.fill(0, 0), NONE);
        due("about(8)", x.about(8), 1);
        x.fill(0, 1);
        due("redo()", x.redo(), false);
        due("about(8)", x.about(8), 0);
    }

    private static void will() {
        promise(17);
        TuneApproval x = told(LANE + "hums 100;");
        x.bring(2, 0);
        x.bring(1, 2);
        due("will(2, 0, 0)", x.will(2, 0, 0), 0);
        due("will(2, 1, 0)", x.will(2, 1, 0), 0);
        due("will(2, 2, 0)", x.will(2, 2, 0), 10);
        due("will(2, 60, 1)", x.will(2, 60, 1), 0);
        due("will(1, 2, 0)", x.will(1, 2, 0), -1);
        due("will(0, 60, 0)", x.will(0, 60, 0), -1);
        // draw 17 comes to 400, the least rest that there is: nobody hums all the same
        TuneApproval y = told(TUNE_A + HOUSE_A + "draw 17;hums 1;");
        y.bring(0, 0);
        due("will(0, 1, 0)", y.will(0, 1, 0), 10);
        due("will(0, 1, 1)", y.will(0, 1, 1), 0);
        due("purse(0, 1)", y.purse(0, 1), 8);
        due("will(0, 61, 0)", x.will(0, 61, 0), -2);
        due("will(0, -1, 0)", x.will(0, -1, 0), -2);
        due("will(3, 0, 0)", x.will(3, 0, 0), -2);
        due("will(0, 0, 2)", x.will(0, 0, 2), -2);
        due("will(0, 0, -1)", x.will(0, 0, -1), -2);
        due("about(5)", x.about(5), 0);
        due("about(6)", x.about(6), 7);
        due("house(0, 2)", x.house(0, 2), 2);
    }

    private static void purse() {
        promise(18);
        TuneApproval x = told(LANE + "hums 100;");
        x.bring(2, 0);
        due("purse(0, 1)", x.purse(0, 1), 12);
        due("purse(0, 2)", x.purse(0, 2), 5);
        due("purse(0, 60)", x.purse(0, 60), 5);
        due("purse(0, 61)", x.purse(0, 61), NONE);
        due("purse(0, -1)", x.purse(0, -1), NONE);
        due("purse(3, 0)", x.purse(3, 0), NONE);
        due("house(0, 1)", x.house(0, 1), 12);
    }

    private static void takes() {
        promise(19);
        TuneApproval x = told(LANE);
        due("takes(0)", x.takes(0), 7);
        due("takes(1)", x.takes(1), 6);
        due("takes(2)", x.takes(2), 0);
        due("takes(3)", x.takes(3), NONE);
        due("takes(-1)", x.takes(-1), NONE);
        x.bring(1, 1);
        x.week();
        x.week();
        // paid for by mid: low would take it nonetheless, and mid has but 5 left
        due("takes(0)", x.takes(0), 7);
        due("takes(1)", x.takes(1), 2);
        // weeks are as approval tells, not as they are
        TuneApproval y = told("approval 3;" + TUNE_A + HOUSE_A + "glad weeks=3;");
        due("takes(0)", y.takes(0), 1);
        y.bring(0, 0);
        due("takes(0)", y.takes(0), 1);
    }

    private static void round() {
        promise(20);
        TuneApproval x = told(LANE);
        due("round(0)", x.round(0), 2);
        due("round(1)", x.round(1), 17);
        due("about(13)", x.about(13), 3);
        due("lies(0)", x.lies(0), 0);
        due("lies(1)", x.lies(1), 2);
        due("lies(2)", x.lies(2), -1);
        due("round(2)", x.round(2), NONE);
        due("round(-1)", x.round(-1), NONE);
        due("about(13)", x.about(13), 3);
        x.bring(2, 2);
        due("round(1)", x.round(1), 14);
        due("lies(1)", x.lies(1), 1);
        x.bring(0, 0);
        due("round(1)", x.round(1), 4);
        due("lies(0)", x.lies(0), -1);
        // more tunes go before a dearer one, the least numbers are first, none is behind all
        TuneApproval y = told("tune a price 9 notes 1 1 1;tune b price 2 notes 1 1 1;tune c price 2 notes 2 2 2;"
                + "house a at 0 purse 9 likes 1 1 1;house b at 0 purse 9 likes 2 2 2;house c at 0 purse 2 likes 1 2 2;");
        due("round(0)", y.round(0), 3);
        due("round(1)", y.round(1), 13);
        due("lies", y.lies(0) * 100 + y.lies(1) * 10 + y.lies(2), 21);
        TuneApproval z = told("tune a price 1 notes 1 1 1;house a at 0 purse 9 likes 1 1 1;house b at 0 purse 9 likes 1 1 1;");
        due("round(0)", z.round(0), 1);
        due("lies(0)", z.lies(0), 0);
        due("lies(1)", z.lies(1), -1);
    }

    private static void walk() {
        promise(21);
        TuneApproval x = told(LANE);
        due("walk(0)", x.walk(0), 9);
        due("lies", x.lies(0) * 100 + x.lies(1) * 10 + x.lies(2), 102);
        due("walk(9)", x.walk(9), 7);
        due("lies", x.lies(0) * 100 + x.lies(1) * 10 + x.lies(2), 201);
        due("walk(99)", x.walk(99), 97);
        due("walk(100)", x.walk(100), NONE);
        due("walk(-1)", x.walk(-1), NONE);
        due("about(13)", x.about(13), 3);
        // both ways are alike long: the first by numbers
        TuneApproval y = told("house a at 7 purse 0 likes 0 0 0;house b at 3 purse 0 likes 0 0 0;");
        due("walk(5)", y.walk(5), 6);
        due("lies(0)", y.lies(0), 0);
        due("walk(4)", y.walk(4), 5);
        due("lies(0)", y.lies(0), 1);
    }

    private static void barter() {
        promise(22);
        TuneApproval x = told(LANE);
        due("barter()", x.barter(), 0);
        due("about(13)", x.about(13), 3);
        due("lies(0)", x.lies(0), -1);
        x.bring(2, 0);
        x.bring(1, 2);
        x.bring(0, 1);
        // low 6 6 3 (hymn aria jig), mid 2 2 6, top 1 0 0
        due("barter()", x.barter(), 13);
        due("lies", x.lies(0) * 100 + x.lies(1) * 10 + x.lies(2), 12);
        x.fetch(0);
        due("barter()", x.barter(), 6);
        due("lies(0)", x.lies(0), 2);
        due("lies(1)", x.lies(1), -1);
        due("lies(2)", x.lies(2), 1);
        // an own one keeps its weeks, a new one has none
        TuneApproval y = told("approval 9;tune a price 1 notes 0 0 0;tune b price 2 notes 0 0 0;house a at 0 purse 0 likes 1 1 1;"
                + "house b at 0 purse 0 likes 1 1 1;glad price+weeks;");
        y.bring(1, 0);
        y.bring(0, 1);
        due("barter()", y.barter(), 3);
        due("lies(0)", y.lies(0), 1);
        y.week();
        due("barter()", y.barter(), 5);
    }

    private static void find() {
        promise(23);
        TuneApproval x = told(LANE);
        due("find(1, 2, 3)", x.find(1, 2, 3), 5);
        due("find(3, 3, 1)", x.find(3, 3, 1), 2);
        due("find(1, 3, 5)", x.find(1, 3, 5), 0);
        due("find(3, 2, 1)", x.find(3, 2, 1), 0);
        due("find(7, 2, 1)", x.find(7, 2, 1), NONE);
        due("find(1, -1, 1)", x.find(1, -1, 1), NONE);
        due("find(1, 2, 7)", x.find(1, 2, 7), NONE);
        x.bring(0, 2);
        x.week();
        x.week();
        // the first note is worn off
        due("find(1, 2, 3)", x.find(1, 2, 3), 4);
        due("find(2, 3, 4)", x.find(2, 3, 4), 1);
    }

    private static void hum() {
        promise(24);
        TuneApproval x = told(LANE);
        due("hum(3, 4, 5)", x.hum(3, 4, 5), 1);
        due("hum(1, 2, 3)", x.hum(1, 2, 3), 4);
        due("hum(3, 3, 1)", x.hum(3, 3, 1), 2);
        due("hum(5, 4, 3)", x.hum(5, 4, 3), 0);
        due("hum(7, 4, 5)", x.hum(7, 4, 5), NONE);
        due("hum(3, 7, 5)", x.hum(3, 7, 5), NONE);
        due("hum(3, 4, -1)", x.hum(3, 4, -1), NONE);
    }

    private static void spinsters() {
        promise(25);
        TuneApproval x = told("tune a price 9 notes 1 1 1;tune b price 9 notes 2 2 2;tune c price 10 notes 1 1 1;"
                + "house a at 0 purse 9 likes 1 1 1;");
        due("spinsters()", x.spinsters(), 6);
        x.bring(0, 0);
        due("spinsters()", x.spinsters(), 6);
        x.week();
        due("spinsters()", x.spinsters(), 7);
        due("spinsters(), no house", told(TUNE_A).spinsters(), 1);
    }

    private static void pair() {
        promise(26);
        TuneApproval x = told(LANE);
        due("pair(0, 0)", x.pair(0, 0), 0);
        due("pair(0, 1)", x.pair(0, 1), 6);
        due("pair(1, 0)", x.pair(1, 0), 1);
        due("pair(3, 0)", x.pair(3, 0), NO_GLAD);
        due("pair(-1, 0)", x.pair(-1, 0), NO_GLAD);
        due("pair(0, 2)", x.pair(0, 2), NO_GLAD);
        due("pair(0, -1)", x.pair(0, -1), NO_GLAD);
        due("pair(0, 0), no house", told(TUNE_A).pair(0, 0), NO_GLAD);
        TuneApproval y = told("approval 9;" + TUNE_A + HOUSE_A + "house b at 0 purse 0 likes 1 2 3;glad weeks-5;");
        due("pair(0, 0)", y.pair(0, 0), 0);
        y.bring(0, 1);
        due("pair(0, 0)", y.pair(0, 0), 0);
        y.week();
        due("pair(0, 0)", y.pair(0, 0), 1);
        due("pair(0, 1)", y.pair(0, 1), -4);
    }

    private static void frayed() {
        promise(27);
        TuneApproval x = told(LANE);
        due("frayed(0)", x.frayed(0), 2);
        due("frayed(1)", x.frayed(1), 0);
        due("frayed(3)", x.frayed(3), NONE);
        due("frayed(-1)", x.frayed(-1), NONE);
        for (int left = 1; left > -2; left--) {
            x.bring(0, 2);
            x.week();
            x.week();
            due("frayed(0)", x.frayed(0), Math.max(0, left));
        }
    }

    private static void rivals() {
        promise(28);
        TuneApproval x = told(LANE);
        due("rivals(0, 1)", x.rivals(0, 1), 2);
        due("about(13)", x.about(13), 2);
        due("lies(0)", x.lies(0), 0);
        due("lies(1)", x.lies(1), 1);
        due("rivals(1, 0)", x.rivals(1, 0), 2);
        due("lies(0)", x.lies(0), 1);
        due("lies(1)", x.lies(1), 0);
        due("rivals(0, 0)", x.rivals(0, 0), NONE);
        due("about(13)", x.about(13), 0);
        due("rivals(0, 3)", x.rivals(0, 3), NONE);
        due("rivals(-1, 0)", x.rivals(-1, 0), NONE);
        TuneApproval y = told(TUNE_A + HOUSE_A + "house b at 0 purse 0 likes 1 2 3;");
        due("rivals(0, 1)", y.rivals(0, 1), 1);
        y.bring(0, 0);
        due("rivals(0, 1)", y.rivals(0, 1), NONE);
        // house 0 would have what house 1 has not, house 1 would spoil it: none rests
        TuneApproval z = told("tune a price 0 notes 0 0 0;tune b price 0 notes 1 1 1;house a at 0 purse 1 likes 0 0 0;"
                + "house b at 0 purse 2 likes 0 0 0;glad (purse=1)*2-1;");
        due("rivals(0, 1)", z.rivals(0, 1), 0);
        due("about(13)", z.about(13), 0);
    }

    private static void sale() {
        promise(29);
        TuneApproval x = told(LANE);
        due("sale(0, 0)", x.sale(0, 0), 11);
        due("sale(0, 1)", x.sale(0, 1), 6);
        due("sale(2, 0)", x.sale(2, 0), 0);
        due("sale(2, 1)", x.sale(2, 1), 0);
        due("sale(0, 2)", x.sale(0, 2), NONE);
        due("sale(0, -1)", x.sale(0, -1), NONE);
        due("sale(3, 0)", x.sale(3, 0), NONE);
        due("sale(-1, 0)", x.sale(-1, 0), NONE);
        x.bring(1, 1);
        due("sale(0, 0)", x.sale(0, 0), 10);
        due("sale(0, 1)", x.sale(0, 1), 1);
        // 2 + 3, 5 and 1 + 4 are alike: the fewest; 4 and the other 4: the least
        String rest = " notes 1 1 1;";
        TuneApproval y = told("tune a price 2" + rest + "tune b price 3" + rest + "tune c price 5" + rest
                + "house a at 0 purse 5 likes 1 1 1;house b at 0 purse 4 likes 1 1 1;");
        due("sale(0, 1)", y.sale(0, 1), 4);
        due("sale(1, 0)", y.sale(1, 0), 3);
        TuneApproval z = told("tune a price 4" + rest + "tune b price 4" + rest + "house b at 0 purse 5 likes 1 1 1;");
        due("sale(0, 1)", z.sale(0, 1), 1);
    }

    private static void swap() {
        promise(30);
        TuneApproval x = told("approval 9;tune a price 0 notes 0 0 0;tune b price 0 notes 1 1 1;tune c price 0 notes 0 0 0;"
                + "house x at 0 purse 0 likes 5 5 5;house y at 0 purse 0 likes 1 1 1;house z at 0 purse 0 likes 0 0 0;"
                + "glad same-weeks;");
        due("swap(0)", x.swap(0), NONE);
        x.bring(2, 0);
        x.bring(0, 1);
        x.bring(1, 2);
        due("swap(0)", x.swap(0), 1);
        due("swap(1)", x.swap(1), 2);
        due("swap(2)", x.swap(2), NONE);
        due("swap(-1)", x.swap(-1), NONE);
        // one who would be as glad as now is not gladder
        TuneApproval y = told("tune a price 0 notes 0 0 0;tune b price 0 notes 1 1 1;house x at 0 purse 0 likes 1 1 1;"
                + "house y at 0 purse 0 likes 5 5 5;house z at 0 purse 0 likes 0 0 0;");
        y.bring(0, 0);
        y.bring(1, 1);
        due("swap(0)", y.swap(0), NONE);
        y.fetch(0);
        y.fetch(1);
        y.bring(0, 1);
        y.bring(1, 2);
        due("swap(0)", y.swap(0), NONE);
        // weeks make every new one more welcome than one's own, 0 and 1 are the first two then
        x.week();
        due("swap(0)", x.swap(0), 0);
        due("swap(1)", x.swap(1), 1);
        x.fetch(1);
        x.fetch(2);
        due("swap(0)", x.swap(0), NONE);
    }

    private static void idle() {
        promise(31);
        TuneApproval x = told(LANE);
        due("idle()", x.idle(), 7);
        x.bring(2, 0);
        due("idle()", x.idle(), 6);
        x.bring(0, 2);
        due("idle()", x.idle(), 2);
        x.week();
        x.week();
        due("idle()", x.idle(), 7);
    }

    private static void fashion() {
        promise(32);
        due("fashion()", told(LANE).fashion(), 1);
        due("fashion()", new TuneApproval().fashion(), NONE);
        due("fashion()", told("house a at 0 purse 0 likes 6 6 6;").fashion(), 6);
        due("fashion()", told("house a at 0 purse 0 likes 2 2 2;house b at 0 purse 0 likes 5 4 4;"
                + "house c at 0 purse 0 likes 3 5 6;").fashion(), 5);
    }

    private static void due() {
        promise(33);
        TuneApproval x = told("approval 9;" + TUNE_A + HOUSE_A + "hums 100;");
        due("due(0)", x.due(0), NONE);
        due("due(1)", x.due(1), NONE);
        due("due(-1)", x.due(-1), NONE);
        x.bring(0, 0);
        for (int n = 0; n < 12; n++) {
            due("due(0)", x.due(0), Math.max(1, 9 - n));
            x.week();
        }
        TuneApproval y = told(TUNE_A + HOUSE_A);
        y.bring(0, 0);
        due("due(0)", y.due(0), 1);
        y.week();
        due("due(0), paid for", y.due(0), NONE);
    }

    private static void along() {
        promise(34);
        TuneApproval x = told(LANE);
        due("along(2, 5)", x.along(2, 5), 3);
        due("along(9, 5)", x.along(9, 5), 5);
        due("along(3, 4)", x.along(3, 4), 0);
        due("along(0, 99)", x.along(0, 99), 7);
        due("along(100, 0)", x.along(100, 0), NONE);
        due("along(0, -1)", x.along(0, -1), NONE);
        due("along(-1, 5)", x.along(-1, 5), NONE);
        due("along(0, 100)", x.along(0, 100), NONE);
    }

    private static void alike() {
        promise(35);
        TuneApproval x = told("tune a price 0 notes 5 1 2 3;tune b price 0 notes 4 1 2 3;tune c price 0 notes 1 2 3;"
                + "tune d price 0 notes 5 1 2 4;house a at 0 purse 0 likes 0 0 0;");
        due("alike(0, 1)", x.alike(0, 1), 3);
        due("alike(0, 0)", x.alike(0, 0), 4);
        due("alike(2, 0)", x.alike(2, 0), 3);
        due("alike(0, 3)", x.alike(0, 3), 0);
        due("alike(0, 4)", x.alike(0, 4), NONE);
        due("alike(-1, 0)", x.alike(-1, 0), NONE);
        x.bring(0, 0);
        x.week();
        due("alike(0, 0)", x.alike(0, 0), 3);
        TuneApproval y = told("tune a price 0 notes 0 0 0 0 0 0 0 5;tune b price 0 notes 1 2 3;tune c price 0 notes 5 1 2 3;");
        due("alike(1, 2)", y.alike(1, 2), 3);
        due("alike(2, 1)", y.alike(2, 1), 3);
    }

    private static void law() {
        promise(36);
        TuneApproval x = told(LANE);
        due("law(0, 3)", x.law(0, 3), 0);
        due("law(0, 4)", x.law(0, 4), 1);
        due("law(0, 7)", x.law(0, 7), 2);
        due("law(0, 999)", x.law(0, 999), 3);
        due("law(2, 999)", x.law(2, 999), 1);
        due("law(0, 1000)", x.law(0, 1000), NONE);
        due("law(0, -1)", x.law(0, -1), NONE);
        due("law(3, 0)", x.law(3, 0), NONE);
        TuneApproval y = told(TUNE_A + HOUSE_A + "glad purse<5;");
        due("law(0, 4)", y.law(0, 4), 1);
        due("law(0, 5)", y.law(0, 5), 0);
        due("law(0, 0)", told("tune a price 0 notes 1 2 3;" + HOUSE_A).law(0, 0), 1);
    }

    private static void favourite() {
        promise(37);
        due("favourite()", told(LANE).favourite(), 1);
        due("favourite()", told(HOUSE_A).favourite(), NONE);
        due("favourite()", told(TUNE_A + "tune b price 1 notes 1 2 3;").favourite(), 0);
        due("favourite()", told("tune a price 99 notes 1 2 3;tune b price 1 notes 1 2 3;tune c price 1 notes 1 2 3;"
                + HOUSE_A).favourite(), 1);
    }

    private static void earned() {
        promise(38);
        TuneApproval x = told(LANE);
        due("earned()", x.earned(), 0);
        x.bring(2, 0);
        x.bring(1, 1);
        due("earned()", x.earned(), 0);
        x.week();
        x.week();
        due("earned()", x.earned(), 11);
        x.give(2);
        due("earned()", x.earned(), 4);
        x.undo();
        due("earned()", x.earned(), 11);
    }

    private static void odds() {
        promise(39);
        TuneApproval x = told("hums 30;");
        due("odds(0, 0)", x.odds(0, 0), 1);
        due("odds(0, 1)", x.odds(0, 1), 1);
        due("odds(2, 0)", x.odds(2, 0), 49);
        due("odds(2, 1)", x.odds(2, 1), 100);
        due("odds(5, 0)", x.odds(5, 0), NONE);
        due("odds(-1, 0)", x.odds(-1, 0), NONE);
        due("odds(1, 2)", x.odds(1, 2), NONE);
        due("odds(1, -1)", x.odds(1, -1), NONE);
        TuneApproval y = told("hums 1;");
        due("odds(4, 0)", y.odds(4, 0), 96059601);
        due("odds(4, 1)", y.odds(4, 1), 100000000);
        TuneApproval z = told("hums 100;");
        due("odds(3, 0)", z.odds(3, 0), 0);
        due("odds(3, 1)", z.odds(3, 1), 1);
        due("odds(0, 0)", z.odds(0, 0), 1);
        due("odds(4, 1)", new TuneApproval().odds(4, 1), 1);
    }

    private static void lies() {
        promise(40);
        TuneApproval x = told(LANE);
        due("lies(0)", x.lies(0), -2);
        x.walk(0);
        due("lies(2)", x.lies(2), 2);
        due("lies(3)", x.lies(3), -2);
        due("lies(-1)", x.lies(-1), -2);
        due("lies(MAX)", x.lies(MAX), -2);
        x.rivals(0, 1);
        due("lies(1)", x.lies(1), 1);
        due("lies(2)", x.lies(2), -2);
    }

    private static void known() {
        promise(41);
        TuneApproval x = told(LANE);
        due("known(3, 0, true)", x.known(3, 0, true), NONE);
        due("known(-1, 0, true)", x.known(-1, 0, true), NONE);
        due("known(0, 1000, true)", x.known(0, 1000, true), NONE);
        due("known(0, -1000, true)", x.known(0, -1000, true), NONE);
        due("known(0, 999, false)", x.known(0, 999, false), 0);
        due("known(0, -999, true)", x.known(0, -999, true), 1);
        for (int i = 2; i < 30; i++) {
            due("known", x.known(1, 0, true), i);
        }
        due("known(0, 0, true)", x.known(0, 0, true), NONE);
        due("about(9)", x.about(9), 30);
        due("known, no house", told(TUNE_A).known(0, 0, true), NONE);
    }

    private static void untell() {
        promise(42);
        TuneApproval x = told(LANE);
        due("untell(0)", x.untell(0), false);
        x.known(0, 999, true);
        due("rows(0)", x.rows(0), 0);
        due("untell(0)", x.untell(0), true);
        due("untell(0)", x.untell(0), false);
        due("untell(1)", x.untell(1), false);
        due("untell(-1)", x.untell(-1), false);
        due("rows(0)", x.rows(0), 343);
        due("about(9)", x.about(9), 1);
    }

    private static void later() {
        promise(43);
        TuneApproval x = new TuneApproval();
        due("later(0)", x.later(0), 0);
        due("later(7)", x.later(7), 7);
        due("later(-1)", x.later(-1), NONE);
        due("later(1001)", x.later(1001), NONE);
        due("later(MAX)", x.later(MAX), NONE);
        due("about(10)", x.about(10), 7);
        for (int i = 1; i <= 99; i++) {
            due("later(1000)", x.later(1000), 7 + 1000 * i);
        }
        due("later(1000)", x.later(1000), NONE);
        due("later(993)", x.later(993), 100000);
        due("later(1)", x.later(1), NONE);
        due("later(0)", x.later(0), 100000);
    }

    private static void rows() {
        promise(44);
        due("rows(0)", new TuneApproval().rows(0), 0);
        TuneApproval x = told("tune a price 5 notes 0 0 0;tune b price 5 notes 1 2 3;" + HOUSE_A
                + "house b at 0 purse 4 likes 6 6 6;");
        due("rows(0)", x.rows(0), 343);
        due("rows(-1)", x.rows(-1), 343);
        x.later(2);
        // by the first tune: 3 if 0 is one of the three, 6 if all are 0
        due("known", x.known(0, 1, true), 0);
        due("rows(1)", x.rows(1), 343);
        due("rows(2)", x.rows(2), 343 - 216);
        due("known", x.known(0, 4, false), 1);
        due("rows(2)", x.rows(2), 343 - 216 - 1);
        x.later(1);
        due("known", x.known(0, 6, true), 2);
        due("rows(2)", x.rows(2), 126);
        due("rows(3)", x.rows(3), 0);
        due("untell", x.untell(1), true);
        due("rows(2)", x.rows(2), 126);
        due("rows(3)", x.rows(3), 1);
        due("rows(MAX)", x.rows(MAX), 1);
        due("rows(MIN)", x.rows(MIN), 343);
        // of the lane as it was told, whatever is done meanwhile
        TuneApproval y = told("tune a price 0 notes 0 0 0 0;" + HOUSE_A + "glad worn*100+purse+weeks;");
        y.known(0, 9, true);
        y.known(0, 10, false);
        y.fill(0, 5);
        y.bring(0, 0);
        y.week();
        due("rows(0)", y.rows(0), 343);
        due("rows(0), no tune", told(HOUSE_A).rows(0), 343);
    }

    private static void sure() {
        promise(45);
        due("sure(0, 0)", new TuneApproval().sure(0, 0), NONE);
        TuneApproval x = told("tune a price 5 notes 0 1 2;" + HOUSE_A);
        due("sure(0, 0)", x.sure(0, 0), -2);
        due("sure(3, 0)", x.sure(3, 0), NONE);
        due("sure(-1, 0)", x.sure(-1, 0), NONE);
        x.later(1);
        x.known(0, 6, true);
        for (int i = 0; i < 3; i++) {
            due("sure(" + i + ", 1)", x.sure(i, 1), i);
            due("sure(" + i + ", 0)", x.sure(i, 0), -2);
        }
        x.known(0, 7, true);
        due("sure(0, 1)", x.sure(0, 1), NONE);
    }

    private static void ask() {
        promise(46);
        due("ask(0, 0)", new TuneApproval().ask(0, 0), NONE);
        due("ask(0, 0), no tune", told(HOUSE_A).ask(0, 0), NONE);
        // by tune 0: 216 rows of 0, 126 of 3, 1 of 6; tune 1 parts them no better, tune 2 does
        TuneApproval x = told("tune a price 5 notes 0 0 0;tune b price 5 notes 1 1 1;tune c price 5 notes 0 0 0 1;" + HOUSE_A);
        // by tune 2: 125 of 0; 91 of 1 (a 1, no 0); 90 of 3 and the turn's one of 6; 34 of 4, 1 of 7
        due("ask(0, 0)", x.ask(0, 0), 2);
        due("ask(1, 0)", x.ask(1, 0), 125);
        due("ask(2, 0)", x.ask(2, 0), NONE);
        due("ask(-1, 0)", x.ask(-1, 0), NONE);
        x.later(1);
        x.known(0, 6, true);
        due("ask(0, 1)", x.ask(0, 1), 0);
        due("ask(1, 1)", x.ask(1, 1), 1);
        due("sure(2, 1)", x.sure(2, 1), 0);
        x.known(0, 6, false);
        due("ask(0, 1)", x.ask(0, 1), NONE);
        due("ask(1, 0)", x.ask(1, 0), 125);
    }

    private static void image() {
        promise(47);
        TuneApproval x = told(LANE);
        x.week();
        due("image(0)", x.image(0), 1);
        due("image(2)", x.image(2), 1);
        due("image(3)", x.image(3), NONE);
        due("image(-1)", x.image(-1), NONE);
        due("about(7)", x.about(7), 1);
    }

    private static void restore() {
        promise(48);
        TuneApproval x = told(LANE);
        due("restore(0)", x.restore(0), NONE);
        x.bring(2, 0);
        x.week();
        x.image(1);
        x.week();
        x.fill(1, 50);
        x.undo();
        x.later(3);
        x.known(0, 0, true);
        due("restore(1)", x.restore(1), 1);
        due("about(7)", x.about(7), 0);
        due("about(8)", x.about(8), 0);
        due("tune(2, 5)", x.tune(2, 5), 1);
        due("tune(2, 4)", x.tune(2, 4), 0);
        due("about(6)", x.about(6), 30);
        due("house(0, 1)", x.house(0, 1), 12);
        due("about(9)", x.about(9), 1);
        due("about(10)", x.about(10), 3);
        due("week()", x.week(), 1);
        due("restore(1)", x.restore(1), 1);
        due("tune(2, 4)", x.tune(2, 4), 0);
        due("restore(0)", x.restore(0), NONE);
        due("restore(3)", x.restore(3), NONE);
        due("restore(-1)", x.restore(-1), NONE);
    }

    private static void about() {
        promise(49);
        TuneApproval x = told(LANE + "hums 30;glad same+(turn);");
        put(x, "12345");
        x.later(9);
        x.bring(2, 0);
        x.week();
        x.week();
        x.bring(0, 1);
        x.undo();
        x.known(0, 0, true);
        x.rivals(0, 1);
        // 7 -> 30 -> 181: neither is hummed
        int[] all = {3, 3, 2, 3, 4, 2, 181, 3, 1, 1, 9, 5, 3, 2, 30};
        for (int what = 0; what < all.length; what++) {
            due("about(" + what + ")", x.about(what), all[what]);
        }
        due("about(15)", x.about(15), NONE);
        due("about(-1)", x.about(-1), NONE);
    }

    public static void main(String[] args) {
        newObject();
        feed();
        end();
        lane();
        faults();
        tune();
        note();
        house();
        glad();
        gladByWeeks();
        week();
        bring();
        fetch();
        give();
        fill();
        undo();
        redo();
        will();
        purse();
        takes();
        round();
        walk();
        barter();
        find();
        hum();
        spinsters();
        pair();
        frayed();
        rivals();
        sale();
        swap();
        idle();
        fashion();
        due();
        along();
        alike();
        law();
        favourite();
        earned();
        odds();
        lies();
        known();
        untell();
        later();
        rows();
        sure();
        ask();
        image();
        restore();
        about();
        report("PromisesTest");
    }
}
