import java.util.List;
import java.util.function.ToLongFunction;

/** The edges that the document names of TUNES, GLADNESS, WEEKS and ACTS (promises 6 to 16). */
public final class WeekEdgesTest extends Checks {
    private static final int[] NO_NUMBERS = {-1, MIN, MAX};
    private static final String EIGHT_NOTES = "tune a price 3 notes 0 1 2 3 4 5 6 0;";
    private static final String NEVER = "glad 0;";
    private static final String ALWAYS = "glad 1;";
    private static final String FIVE_TUNES = "tune a price 0 notes 0 0 0;tune b price 1 notes 1 1 1;tune c price 2 notes 2 2 2;"
            + "tune d price 3 notes 3 3 3;tune e price 99 notes 4 4 4;";
    private static final String FOUR_HOUSES = "house a at 0 purse 0 likes 0 0 0;house b at 0 purse 1 likes 1 1 1;"
            + "house c at 50 purse 2 likes 2 2 2;house d at 99 purse 99 likes 3 3 3;";

    /** Brought to house 0 and worn so often. */
    private static TuneApproval wornTune(String lane, int times) {
        TuneApproval x = told(lane + NEVER);
        for (int i = 0; i < times; i++) {
            x.bring(0, 0);
            x.week();
        }
        return x;
    }

    /** One tune is paid for, one is on approval, one on the cart; something lies there and can be undone and redone. */
    private static TuneApproval busy() {
        TuneApproval x = told(LANE);
        x.bring(2, 0);
        x.week();
        x.image(0);
        x.week();
        x.bring(0, 1);
        x.fill(2, 5);
        x.fill(2, 6);
        x.undo();
        x.walk(0);
        x.known(0, 3, true);
        put(x, "hums 3;");
        return x;
    }

    private static void nothing(String name, ToLongFunction<TuneApproval> call, long answer) {
        doesNothing(name, WeekEdgesTest::busy, call, answer);
    }

    // ---- promise 6

    private static void tunes() {
        promise(6);
        TuneApproval x = told(FIVE_TUNES + FOUR_HOUSES);
        int[] prices = {0, 1, 2, 3, 99};
        for (int tune = 0; tune < 5; tune++) {
            due("tune(" + tune + ", 0)", x.tune(tune, 0), prices[tune]);
            due("tune(" + tune + ", 5)", x.tune(tune, 5), 0);
            due("tune(" + tune + ", 6)", x.tune(tune, 6), -2);
        }
        for (int what = -1; what <= 6; what++) {
            due("tune(5, " + what + ")", x.tune(5, what), -2);
            due("tune(-1, " + what + ")", x.tune(-1, what), -2);
        }
        for (int no : NO_NUMBERS) {
            due("tune(0, " + no + ")", x.tune(0, no), -2);
            due("tune(" + no + ", 0)", x.tune(no, 0), -2);
        }
        due("tune(0, 0) of none", new TuneApproval().tune(0, 0), -2);
        TuneApproval y = told(TUNE_A);
        due("tune(0, 0) of one", y.tune(0, 0), 1);
        due("tune(1, 0) of one", y.tune(1, 0), -2);
    }

    private static void notesLeft() {
        promise(6);
        for (int worn = 0; worn <= 7; worn++) {
            TuneApproval x = wornTune(EIGHT_NOTES + HOUSE_A, worn);
            due("tune(0, 1)", x.tune(0, 1), Math.max(3, 8 - worn));
            due("tune(0, 2)", x.tune(0, 2), worn);
        }
        TuneApproval y = wornTune(TUNE_A + HOUSE_A, 1);
        due("tune(0, 1)", y.tune(0, 1), 3);
        due("tune(0, 2)", y.tune(0, 2), 1);
    }

    private static void weeksOnApproval() {
        promise(6);
        TuneApproval x = told("approval 2;" + TUNE_A + HOUSE_A + ALWAYS);
        due("on the cart", x.tune(0, 5), 0);
        x.week();
        due("on the cart", x.tune(0, 5), 0);
        x.bring(0, 0);
        due("brought", x.tune(0, 5), 0);
        x.week();
        due("a week later", x.tune(0, 5), 1);
        x.week();
        due("paid for", x.tune(0, 5), 0);
        due("paid for", x.tune(0, 4), 1);
        due("paid for", x.tune(0, 3), 0);
        x.week();
        due("paid for", x.tune(0, 5), 0);
        x.give(0);
        due("given back", x.tune(0, 5), 0);
        due("given back", x.tune(0, 4), 0);
        due("given back", x.tune(0, 3), -1);
        x.bring(0, 0);
        x.week();
        x.fetch(0);
        x.bring(0, 0);
        due("brought anew", x.tune(0, 5), 0);
    }

    // ---- promise 7

    private static void notes() {
        promise(7);
        int[] all = {0, 1, 2, 3, 4, 5, 6, 0};
        for (int worn = 0; worn <= 7; worn++) {
            TuneApproval x = wornTune(EIGHT_NOTES + HOUSE_A, worn);
            int left = Math.max(3, 8 - worn);
            for (int i = 0; i < left; i++) {
                due("note(0, " + i + "), worn " + worn, x.note(0, i), all[8 - left + i]);
            }
            due("note(0, " + left + "), worn " + worn, x.note(0, left), NONE);
            due("note(0, -1)", x.note(0, -1), NONE);
        }
        TuneApproval y = told(FIVE_TUNES);
        due("note(4, 2)", y.note(4, 2), 4);
        due("note(4, 3)", y.note(4, 3), NONE);
        due("note(5, 0)", y.note(5, 0), NONE);
        for (int no : NO_NUMBERS) {
            due("note(" + no + ", 0)", y.note(no, 0), NONE);
            due("note(0, " + no + ")", y.note(0, no), NONE);
        }
        // of one with three notes, what is behind is not the next one's first
        TuneApproval z = told("tune a price 0 notes 5 5 5;tune b price 0 notes 6 6 6;");
        due("note(0, 3)", z.note(0, 3), NONE);
        due("note(0, 8)", z.note(0, 8), NONE);
    }

    // ---- promise 8

    private static void houses() {
        promise(8);
        TuneApproval x = told(FIVE_TUNES + FOUR_HOUSES + ALWAYS);
        int[] places = {0, 0, 50, 99};
        int[] purses = {0, 1, 2, 99};
        for (int house = 0; house < 4; house++) {
            due("house(" + house + ", 0)", x.house(house, 0), places[house]);
            due("house(" + house + ", 1)", x.house(house, 1), purses[house]);
            due("house(" + house + ", 2)", x.house(house, 2), -1);
            due("house(" + house + ", 3)", x.house(house, 3), 0);
            due("house(" + house + ", 4)", x.house(house, 4), -2);
        }
        for (int what = -1; what <= 4; what++) {
            due("house(4, " + what + ")", x.house(4, what), -2);
            due("house(-1, " + what + ")", x.house(-1, what), -2);
        }
        for (int no : NO_NUMBERS) {
            due("house(0, " + no + ")", x.house(0, no), -2);
            due("house(" + no + ", 0)", x.house(no, 0), -2);
        }
        due("house(0, 0) of none", new TuneApproval().house(0, 0), -2);
        due("house(1, 0) of one", told(HOUSE_A).house(1, 0), -2);
        // all five paid for by one: 99 is spent on the last
        x.fill(3, 6);
        for (int tune = 0; tune < 5; tune++) {
            due("bring(" + tune + ", 3)", x.bring(tune, 3), 1);
            due("house(3, 2)", x.house(3, 2), tune);
            due("week()", x.week(), 1);
            due("house(3, 2)", x.house(3, 2), -1);
            due("house(3, 3)", x.house(3, 3), (2 << tune) - 1);
        }
        due("house(3, 1)", x.house(3, 1), 0);
    }

    // ---- promise 9

    /** The tune has 8 notes, 6 of which are 1 or 2, and the turn 1 2 2. */
    private static void gladBy(String formula, int want) {
        TuneApproval x = told("tune a price 40 notes 1 2 2 0 1 1 2 5;house a at 0 purse 9 likes 1 2 2;glad " + formula + ";");
        due("glad by " + formula, x.glad(0, 0), want);
    }

    private static void gladnessAtItsMost() {
        promise(9);
        gladBy("9998", 9998);
        gladBy("9999", 9999);
        gladBy("9999+1", 9999);
        gladBy("9999*9999", 9999);
        gladBy("0-9998", -9998);
        gladBy("0-9999", -9999);
        gladBy("0-9999-1", -9999);
        gladBy("0-9999*9999", -9999);
        // what comes of the whole is bounded, not what comes of a part
        gladBy("9999+9999-9999", 9999);
        gladBy("9999*9999-9999*9999+5", 5);
        gladBy("(9999+9999)/2", 9999);
        gladBy("(9999+2)/3", 3333);
    }

    private static void gladnessWraps() {
        promise(9);
        // 99980001 * 21 = 2099580021 is below 2147483648, 22 times it is not
        gladBy("9999*9999*21", 9999);
        gladBy("9999*9999*22", -9999);
        gladBy("9999*9999*21+9999*9999", -9999);
        gladBy("0-9999*9999*21", -9999);
        gladBy("0-9999*9999*22", 9999);
        gladBy("0-9999*9999*21-9999*9999", 9999);
        // 8192 * 8192 * 32 is 2147483648, which is -2147483648; 64 times it is 0
        gladBy("8192*8192*32<0", 1);
        gladBy("8192*8192*32-1>0", 1);
        gladBy("8192*8192*64", 0);
        gladBy("8192*8192*64+7", 7);
        gladBy("8192*8192*32/(0-1)<0", 1);
        gladBy("8192*8192*32%(0-1)", 0);
        gladBy("(8192*8192*32-1)/(8192*8192*32-1)", 1);
        gladBy("(8192*8192*32-1)%1000", 647);
    }

    private static void gladnessByZero() {
        promise(9);
        gladBy("7/0", 0);
        gladBy("7%0", 0);
        gladBy("0/0", 0);
        gladBy("0%0", 0);
        gladBy("7/0+7", 7);
        gladBy("7/(3-3)*9+1", 1);
        gladBy("7/1", 7);
        gladBy("7%1", 0);
        gladBy("7/(0-1)", -7);
        gladBy("0-7/2", -3);
        gladBy("(0-7)/2", -3);
        gladBy("7/(0-2)", -3);
        gladBy("(0-7)%2", -1);
        gladBy("7%(0-2)", 1);
        gladBy("(0-7)%(0-2)", -1);
    }

    private static void gladnessByRelations() {
        promise(9);
        gladBy("3<4", 1);
        gladBy("4<4", 0);
        gladBy("5<4", 0);
        gladBy("3>4", 0);
        gladBy("4>4", 0);
        gladBy("5>4", 1);
        gladBy("3=4", 0);
        gladBy("4=4", 1);
        gladBy("5=4", 0);
        gladBy("(0-1) and (0-2)", 1);
        gladBy("0 and 2", 0);
        gladBy("2 and 0", 0);
        gladBy("(0-1) or 0", 1);
        gladBy("0 or 0", 0);
        gladBy("0 or 2", 1);
        gladBy("not (0-1)", 0);
        gladBy("not 0", 1);
        gladBy("not not 7", 1);
        // not goes with the whole relation, and goes before or, relations behind sums
        gladBy("not 0=1", 1);
        gladBy("not 0 and 0", 0);
        gladBy("1 or 1 and 0", 1);
        gladBy("(1 or 1) and 0", 0);
        gladBy("1+1<3", 1);
        gladBy("1+(1<3)", 2);
        gladBy("7-2-1", 4);
        gladBy("7-(2-1)", 6);
        gladBy("8/4/2", 1);
        gladBy("8/(4/2)", 4);
        gladBy("9%5*3", 12);
    }

    private static void gladnessByFacts() {
        promise(9);
        gladBy("same", 6);
        gladBy("turn", 1);
        gladBy("long", 8);
        gladBy("worn", 0);
        gladBy("weeks", 0);
        gladBy("price", 40);
        gladBy("purse", 9);
        // a note that is liked twice counts once for each note of the tune
        due("same", told("tune a price 0 notes 5 5 5;house a at 0 purse 0 likes 5 5 5;glad same;").glad(0, 0), 3);
        due("same", told("tune a price 0 notes 0 1 2;house a at 0 purse 0 likes 5 4 3;glad same;").glad(0, 0), 0);
        // a turn: at the first, in the midst, at the last; not with one between, not backwards, not in another order
        String[] notes = {"1 2 3 0 0", "0 1 2 3 0", "0 0 1 2 3", "1 2 3", "1 1 2 3"};
        for (String row : notes) {
            due("turn in " + row, turnIn(row), 1);
        }
        String[] without = {"1 2 0 3 0", "3 2 1", "2 1 3", "2 3 1", "0 0 0 1 2", "2 3 0 0 0", "1 2 2 3", "3 1 2"};
        for (String row : without) {
            due("turn in " + row, turnIn(row), 0);
        }
    }

    private static int turnIn(String notes) {
        return told("tune a price 0 notes " + notes + ";tune b price 0 notes 3 3 3;house a at 0 purse 0 likes 1 2 3;glad turn;").glad(0, 0);
    }

    private static void gladnessOfAWornOne() {
        promise(9);
        // worn once the first note is gone, and with it the turn 1 2 3; the last three stay for ever
        String lane = "tune a price 7 notes 1 2 3 4 5;house a at 0 purse 0 likes 1 2 3;house b at 0 purse 0 likes 3 4 5;";
        int[] turns = {1, 0, 0, 0};
        int[] same = {3, 2, 1, 1};
        int[] left = {5, 4, 3, 3};
        for (int worn = 0; worn <= 3; worn++) {
            // price is above every purse: it comes back each time
            TuneApproval x = told(lane + "glad same*1000+turn*100+long*10+worn;");
            for (int i = 0; i < worn; i++) {
                x.bring(0, 0);
                x.week();
            }
            due("glad(0, 0)", x.glad(0, 0), same[worn] * 1000 + turns[worn] * 100 + left[worn] * 10 + worn);
            due("glad(1, 0)", x.glad(1, 0), 3000 + 100 + left[worn] * 10 + worn);
        }
        // same + turn * 3 - worn, if it is not told
        TuneApproval y = told(lane);
        due("glad(0, 0)", y.glad(0, 0), 6);
        y.bring(0, 0);
        y.week();
        due("glad(0, 0)", y.glad(0, 0), 1);
        due("glad(1, 0)", y.glad(1, 0), 5);
    }

    private static void gladnessThatCantBe() {
        promise(9);
        TuneApproval x = told(FIVE_TUNES + FOUR_HOUSES);
        due("glad(3, 4)", x.glad(3, 4), 0);
        due("glad(3, 5)", x.glad(3, 5), NO_GLAD);
        due("glad(4, 4)", x.glad(4, 4), NO_GLAD);
        for (int no : NO_NUMBERS) {
            due("glad(0, " + no + ")", x.glad(0, no), NO_GLAD);
            due("glad(" + no + ", 0)", x.glad(no, 0), NO_GLAD);
        }
        due("glad(0, 0) without tunes", told(HOUSE_A).glad(0, 0), NO_GLAD);
        due("glad(0, 0) without houses", told(TUNE_A).glad(0, 0), NO_GLAD);
    }

    private static void gladnessByThePurseAsItIs() {
        promise(9);
        TuneApproval x = told("tune a price 9 notes 0 0 0;house a at 0 purse 9 likes 0 0 0;glad purse+weeks*100;");
        due("glad(0, 0)", x.glad(0, 0), 9);
        x.fill(0, 1);
        due("glad(0, 0)", x.glad(0, 0), 10);
        x.bring(0, 0);
        x.week();
        due("glad(0, 0), paid for", x.glad(0, 0), 1);
    }

    // ---- promise 10

    private static void approvalTells() {
        promise(10);
        for (int approval = 1; approval <= 9; approval++) {
            TuneApproval x = told("approval " + approval + ";" + TUNE_A + HOUSE_A);
            x.bring(0, 0);
            for (int n = 1; n < approval; n++) {
                due("week() " + n + " of " + approval, x.week(), 0);
                due("tune(0, 3)", x.tune(0, 3), 0);
                due("tune(0, 5)", x.tune(0, 5), n);
            }
            due("week() " + approval, x.week(), 1);
            due("tune(0, 4)", x.tune(0, 4), 1);
        }
    }

    private static void decidedByGladnessAndPurse() {
        promise(10);
        int[][] cases = {{5, 5, 1, 1}, {5, 6, 1, 1}, {6, 5, 1, 0}, {5, 5, 0, 0}, {0, 0, 1, 1}, {0, 0, 0, 0}, {99, 99, 1, 1}, {99, 98, 1, 0}};
        for (int[] one : cases) {
            TuneApproval x = told("tune a price " + one[0] + " notes 0 0 0;house a at 0 purse " + one[1] + " likes 0 0 0;glad " + one[2] + ";");
            x.bring(0, 0);
            due("week()", x.week(), one[3]);
            due("house(0, 1)", x.house(0, 1), one[3] == 1 ? one[1] - one[0] : one[1]);
            due("tune(0, 2)", x.tune(0, 2), 1 - one[3]);
            due("tune(0, 3)", x.tune(0, 3), one[3] - 1);
            due("tune(0, 4)", x.tune(0, 4), one[3]);
        }
        TuneApproval y = told(TUNE_A + HOUSE_A + "glad 0-1;");
        y.bring(0, 0);
        due("week()", y.week(), 0);
        // the week that ends counts among the weeks
        TuneApproval z = told("approval 2;" + TUNE_A + HOUSE_A + "glad weeks=2;");
        z.bring(0, 0);
        z.week();
        due("week()", z.week(), 1);
        TuneApproval w = told("approval 2;" + TUNE_A + HOUSE_A + "glad weeks=1;");
        w.bring(0, 0);
        w.week();
        due("week()", w.week(), 0);
    }

    private static void hummed() {
        promise(10);
        // 3 -> 482 -> 105 -> 456 -> 543 -> 462 -> 365 -> 76 -> 483: at 83 the eighth is the first that is not hummed
        int[] seeds = {482, 105, 456, 543, 462, 365, 76, 483};
        TuneApproval x = told(TUNE_A + HOUSE_A + "draw 3;hums 83;");
        x.bring(0, 0);
        for (int n = 1; n <= 7; n++) {
            due("week() " + n, x.week(), 0);
            due("seed", x.about(6), seeds[n - 1]);
            due("weeks", x.tune(0, 5), n);
            due("worn", x.tune(0, 2), 0);
        }
        due("week() 8", x.week(), 1);
        due("seed", x.about(6), 483);
        TuneApproval y = told(TUNE_A + HOUSE_A + "draw 3;hums 82;");
        y.bring(0, 0);
        due("week()", y.week(), 1);
        // 17 -> 400, a rest of 0: less than 1, not less than 0
        TuneApproval z = told(TUNE_A + HOUSE_A + "draw 17;hums 0;");
        z.bring(0, 0);
        due("week()", z.week(), 1);
        due("seed", z.about(6), 400);
        TuneApproval w = told(TUNE_A + HOUSE_A + "draw 17;hums 1;");
        w.bring(0, 0);
        due("week()", w.week(), 0);
        // 404 -> 419
        due("hummed at 20", hummedAt(404, 20), true);
        due("hummed at 19", hummedAt(404, 19), false);
        // 44 -> 99: a rest of 99 is hummed at 100 alone
        due("hummed at 100", hummedAt(44, 100), true);
        due("hummed at 99", hummedAt(44, 99), false);
    }

    private static boolean hummedAt(int draw, int hums) {
        TuneApproval x = told(TUNE_A + HOUSE_A + "draw " + draw + ";hums " + hums + ";");
        x.bring(0, 0);
        return x.week() == 0 && x.tune(0, 3) == 0;
    }

    private static void houseByHouse() {
        promise(10);
        // draw 3: the first house that has one draws 82, the next one 5, whichever tunes they have
        String two = "tune a price 0 notes 0 0 0;tune b price 0 notes 0 0 0;";
        TuneApproval x = told(two + FOUR_HOUSES + "draw 3;hums 50;" + ALWAYS);
        x.bring(0, 3);
        x.bring(1, 1);
        due("week()", x.week(), 1);
        due("seed", x.about(6), 105);
        due("house(1, 3)", x.house(1, 3), 2);
        due("house(3, 2)", x.house(3, 2), 0);
        // a house that has paid has none on approval: only the other one draws
        due("week()", x.week(), 1);
        due("seed", x.about(6), 456);
        due("week()", x.week(), 0);
        due("seed", x.about(6), 456);
        due("about(5)", x.about(5), 3);
    }

    private static void allFourPay() {
        promise(10);
        TuneApproval x = told(FIVE_TUNES + FOUR_HOUSES + ALWAYS);
        for (int house = 0; house < 4; house++) {
            x.bring(house == 3 ? 4 : house, house);
        }
        due("week()", x.week(), 4);
        for (int house = 0; house < 4; house++) {
            due("house(" + house + ", 1)", x.house(house, 1), 0);
        }
        due("about(4)", x.about(4), 23);
        due("about(3)", x.about(3), 8);
    }

    private static void seedWraps() {
        promise(10);
        int[][] draws = {{0, 71}, {1, 208}, {999, 934}, {7, 30}, {777, 520}};
        for (int[] one : draws) {
            TuneApproval x = told(TUNE_A + HOUSE_A + "draw " + one[0] + ";");
            x.bring(0, 0);
            x.week();
            due("seed behind " + one[0], x.about(6), one[1]);
        }
        // no tune on approval: no draw
        TuneApproval y = told(TUNE_A + HOUSE_A + "draw 5;");
        due("week()", y.week(), 0);
        due("seed", y.about(6), 5);
        due("about(5)", y.about(5), 1);
    }

    private static void wornAtItsMost() {
        promise(10);
        TuneApproval x = wornTune(TUNE_A + HOUSE_A, 98);
        due("tune(0, 2)", x.tune(0, 2), 98);
        for (int i = 0; i < 3; i++) {
            x.bring(0, 0);
            due("week()", x.week(), 0);
            due("tune(0, 2)", x.tune(0, 2), 99);
            due("tune(0, 3)", x.tune(0, 3), -1);
        }
        due("tune(0, 1)", x.tune(0, 1), 3);
    }

    private static void manyWeeks() {
        promise(10);
        TuneApproval x = new TuneApproval();
        for (int n = 1; n <= 450; n++) {
            due("week()", x.week(), 0);
        }
        due("about(5)", x.about(5), 450);
    }

    private static void allWeeks() {
        promise(10);
        // behind more than 512 calls answers are free; these are as the document tells nonetheless
        TuneApproval x = new TuneApproval();
        for (int n = 1; n <= 999; n++) {
            due("week()", x.week(), 0);
        }
        due("about(7)", x.about(7), 40);
        due("week()", x.week(), NONE);
        due("about(5)", x.about(5), 999);
        due("undo()", x.undo(), true);
        due("week()", x.week(), 0);
        due("week()", x.week(), NONE);
    }

    // ---- promises 11 to 14: acts that can't be do nothing

    private static void brought() {
        promise(11);
        TuneApproval x = told(FIVE_TUNES + FOUR_HOUSES + "glad same-weeks-4;");
        due("bring(4, 3)", x.bring(4, 3), -4);
        due("bring(0, 0)", x.bring(0, 0), -1);
        due("house(3, 2)", x.house(3, 2), 4);
        due("about(3)", x.about(3), 14);
        due("about(7)", x.about(7), 2);
        nothing("bring(1, 1), it has one", y -> y.bring(1, 1), NO_GLAD);
        nothing("bring(0, 1), it has this one", y -> y.bring(0, 1), NO_GLAD);
        nothing("bring(0, 2), another one has it", y -> y.bring(0, 2), NO_GLAD);
        nothing("bring(2, 2), paid for", y -> y.bring(2, 2), NO_GLAD);
        nothing("bring(2, 0), paid for by it", y -> y.bring(2, 0), NO_GLAD);
        nothing("bring(3, 2), none such", y -> y.bring(3, 2), NO_GLAD);
        nothing("bring(1, 3), none such", y -> y.bring(1, 3), NO_GLAD);
        for (int no : NO_NUMBERS) {
            nothing("bring(" + no + ", 2)", y -> y.bring(no, 2), NO_GLAD);
            nothing("bring(1, " + no + ")", y -> y.bring(1, no), NO_GLAD);
        }
        TuneApproval z = busy();
        due("bring(1, 0), it has paid for another", z.bring(1, 0), 3);
        due("about(8)", z.about(8), 0);
    }

    private static void fetched() {
        promise(12);
        nothing("fetch(1), on the cart", y -> y.fetch(1), NONE);
        nothing("fetch(2), paid for", y -> y.fetch(2), NONE);
        nothing("fetch(3), none such", y -> y.fetch(3), NONE);
        for (int no : NO_NUMBERS) {
            nothing("fetch(" + no + ")", y -> y.fetch(no), NONE);
        }
        TuneApproval x = busy();
        due("fetch(0)", x.fetch(0), 1);
        due("tune(0, 2)", x.tune(0, 2), 0);
        due("about(3)", x.about(3), 3);
        due("house(1, 2)", x.house(1, 2), -1);
        due("fetch(0)", x.fetch(0), NONE);
        TuneApproval y = told(FIVE_TUNES + FOUR_HOUSES);
        y.bring(4, 0);
        due("fetch(4)", y.fetch(4), 0);
        due("fetch(5)", y.fetch(5), NONE);
    }

    private static void given() {
        promise(13);
        nothing("give(1), on the cart", y -> y.give(1), NONE);
        nothing("give(0), on approval", y -> y.give(0), NONE);
        nothing("give(3), none such", y -> y.give(3), NONE);
        for (int no : NO_NUMBERS) {
            nothing("give(" + no + ")", y -> y.give(no), NONE);
        }
        TuneApproval x = busy();
        due("give(2)", x.give(2), 0);
        due("house(0, 1)", x.house(0, 1), 5);
        due("house(0, 3)", x.house(0, 3), 0);
        due("tune(2, 2)", x.tune(2, 2), 0);
        due("about(3)", x.about(3), 6);
        due("give(2)", x.give(2), NONE);
        // it can be brought again, and paid for once more
        due("bring(2, 2)", x.bring(2, 2), 1);
    }

    /** A house with so much in its purse. */
    private static TuneApproval purseOf(int purse) {
        TuneApproval x = told("house a at 0 purse 9 likes 0 0 0;");
        int rest = purse - 9;
        for (int i = 0; i < 20 && rest > 0; i++) {
            x.fill(0, Math.min(50, rest));
            rest -= Math.min(50, rest);
        }
        due("house(0, 1)", x.house(0, 1), purse);
        return x;
    }

    private static void filled() {
        promise(14);
        due("fill(0, 1)", purseOf(9).fill(0, 1), 10);
        due("fill(0, 50)", purseOf(9).fill(0, 50), 59);
        for (int more : new int[] {0, 51, -1, -50, MIN, MAX}) {
            nothing("fill(0, " + more + ")", y -> y.fill(0, more), NONE);
        }
        for (int no : new int[] {-1, 3, MIN, MAX}) {
            nothing("fill(" + no + ", 1)", y -> y.fill(no, 1), NONE);
        }
        due("fill to 999", purseOf(949).fill(0, 50), 999);
        due("fill beyond 999", purseOf(950).fill(0, 50), 999);
        due("fill beyond 999", purseOf(998).fill(0, 50), 999);
        due("fill to 999", purseOf(998).fill(0, 1), 999);
        due("fill below 999", purseOf(997).fill(0, 1), 998);
        doesNothing("fill(0, 1), 999 there", () -> purseOf(999), y -> y.fill(0, 1), NONE);
        doesNothing("fill(0, 50), 999 there", () -> purseOf(999), y -> y.fill(0, 50), NONE);
        TuneApproval x = purseOf(998);
        x.fill(0, 50);
        due("undo()", x.undo(), true);
        due("house(0, 1)", x.house(0, 1), 998);
        due("fill(0, 1) of the last house", told(FOUR_HOUSES).fill(3, 1), 100);
        due("fill(0, 1) of none", new TuneApproval().fill(0, 1), NONE);
    }

    // ---- promises 15 and 16

    private static TuneApproval filledTimes(int times) {
        TuneApproval x = told(HOUSE_A);
        for (int i = 0; i < times; i++) {
            x.fill(0, 1);
        }
        return x;
    }

    private static void fortyAreKept() {
        promise(15);
        for (int times : new int[] {0, 1, 39, 40, 41, 42, 80, 81, 82}) {
            int kept = Math.min(40, times);
            TuneApproval x = filledTimes(times);
            due("about(7) behind " + times, x.about(7), kept);
            for (int i = 1; i <= kept; i++) {
                due("undo() " + i, x.undo(), true);
                due("house(0, 1)", x.house(0, 1), 9 + times - i);
                due("about(7)", x.about(7), kept - i);
                due("about(8)", x.about(8), i);
            }
            doesNothing("undo() of none", () -> {
                TuneApproval y = filledTimes(times);
                for (int i = 0; i < kept; i++) {
                    y.undo();
                }
                return y;
            }, y -> y.undo() ? 1 : 0, 0);
        }
    }

    private static void redone() {
        promise(16);
        for (int times : new int[] {1, 39, 40, 41}) {
            int kept = Math.min(40, times);
            TuneApproval x = filledTimes(times);
            due("redo() of none", x.redo(), false);
            for (int i = 0; i < kept; i++) {
                x.undo();
            }
            for (int i = 1; i <= kept; i++) {
                due("redo() " + i, x.redo(), true);
                due("house(0, 1)", x.house(0, 1), 9 + times - kept + i);
                due("about(7)", x.about(7), i);
                due("about(8)", x.about(8), kept - i);
            }
            due("redo() of none", x.redo(), false);
            due("house(0, 1)", x.house(0, 1), 9 + times);
        }
        doesNothing("redo() of none", () -> filledTimes(3), y -> y.redo() ? 1 : 0, 0);
    }

    private static void tillAnotherAct() {
        promise(16);
        List<ToLongFunction<TuneApproval>> acts = acts();
        for (int i = 0; i < acts.size(); i++) {
            TuneApproval x = busy();
            due("about(8)", x.about(8), 1);
            acts.get(i).applyAsLong(x);
            due("about(8) behind act " + i, x.about(8), 0);
            due("redo() behind act " + i, x.redo(), false);
            due("about(7) behind act " + i, x.about(7), 6);
            TuneApproval y = busy();
            acts.get(i).applyAsLong(y);
            due("undo() of act " + i, y.undo(), true);
            TuneApproval z = busy();
            for (int tune = 0; tune < 3; tune++) {
                for (int what = 0; what < 6; what++) {
                    due("tune(" + tune + ", " + what + ") behind act " + i + " undone", y.tune(tune, what), z.tune(tune, what));
                }
                due("house(" + tune + ", 1)", y.house(tune, 1), z.house(tune, 1));
            }
            due("about(5)", y.about(5), z.about(5));
            due("about(6)", y.about(6), z.about(6));
        }
        // what is no act leaves what can be redone
        TuneApproval x = busy();
        x.image(2);
        x.later(1);
        x.known(0, 0, true);
        x.untell(0);
        x.round(0);
        x.walk(0);
        x.barter();
        x.rivals(0, 1);
        x.will(0, 9, 1);
        x.purse(0, 9);
        due("lane(), faulty", busyWithAFault(x), NONE);
        due("about(8)", x.about(8), 1);
        due("redo()", x.redo(), true);
        due("house(2, 1)", x.house(2, 1), 14);
    }

    private static int busyWithAFault(TuneApproval x) {
        x.end(0);
        put(x, "?");
        return x.lane();
    }

    private static List<ToLongFunction<TuneApproval>> acts() {
        return List.of(TuneApproval::week, x -> x.bring(1, 2), x -> x.fetch(0), x -> x.give(2), x -> x.fill(0, 1));
    }

    private static void partlyUndone() {
        promise(16);
        // forty acts, ten of them taken back, one more: thirty-one can be undone
        TuneApproval x = filledTimes(40);
        for (int i = 0; i < 10; i++) {
            x.undo();
        }
        due("about(7)", x.about(7), 30);
        due("about(8)", x.about(8), 10);
        x.fill(0, 5);
        due("about(7)", x.about(7), 31);
        due("about(8)", x.about(8), 0);
        due("house(0, 1)", x.house(0, 1), 44);
        x.undo();
        due("house(0, 1)", x.house(0, 1), 39);
        x.redo();
        due("house(0, 1)", x.house(0, 1), 44);
        // knowledge, the TIME, the tape and what lies there are not undone
        TuneApproval y = told(LANE);
        y.fill(0, 1);
        y.later(3);
        y.known(0, 1, true);
        y.walk(0);
        put(y, "abc");
        due("undo()", y.undo(), true);
        due("about(9)", y.about(9), 1);
        due("about(10)", y.about(10), 3);
        due("about(11)", y.about(11), 3);
        due("about(13)", y.about(13), 3);
    }

    public static void main(String[] args) {
        tunes();
        notesLeft();
        weeksOnApproval();
        notes();
        houses();
        gladnessAtItsMost();
        gladnessWraps();
        gladnessByZero();
        gladnessByRelations();
        gladnessByFacts();
        gladnessOfAWornOne();
        gladnessThatCantBe();
        gladnessByThePurseAsItIs();
        approvalTells();
        decidedByGladnessAndPurse();
        hummed();
        houseByHouse();
        allFourPay();
        seedWraps();
        wornAtItsMost();
        manyWeeks();
        allWeeks();
        brought();
        fetched();
        given();
        filled();
        fortyAreKept();
        redone();
        tillAnotherAct();
        partlyUndone();
        report("WeekEdgesTest");
    }
}
