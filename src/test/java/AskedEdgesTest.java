import java.util.function.ToLongFunction;

/** The edges that the document names of what is asked by what is now (promises 17 to 40). */
public final class AskedEdgesTest extends Checks {
    private static final int[] NO_NUMBERS = {-1, MIN, MAX};
    private static final String ALWAYS = "glad 1;";
    // 0 0 0 and so on: each is liked by the house of its number alone, the last tune by none
    private static final String FIVE_TUNES = "tune a price 0 notes 0 0 0;tune b price 1 notes 1 1 1;tune c price 2 notes 2 2 2;"
            + "tune d price 3 notes 3 3 3;tune e price 99 notes 4 4 4;";
    private static final String FOUR_HOUSES = "house a at 10 purse 9 likes 0 0 0;house b at 0 purse 9 likes 1 1 1;"
            + "house c at 20 purse 9 likes 2 2 2;house d at 99 purse 99 likes 3 3 3;";

    /** One tune is paid for, one on approval, one on the cart; 3 numbers lie there. */
    private static TuneApproval busy() {
        TuneApproval x = told(LANE);
        x.bring(2, 0);
        x.week();
        x.week();
        x.bring(0, 1);
        x.fill(2, 6);
        x.undo();
        x.walk(0);
        return x;
    }

    private static void nothing(String name, ToLongFunction<TuneApproval> call, long answer) {
        doesNothing(name, AskedEdgesTest::busy, call, answer);
    }

    /** Asking changes nothing, whatever it answers. */
    private static void nothingIsDone() {
        promise(17);
        nothing("will(0, 60, 1)", x -> x.will(0, 60, 1), -1);
        promise(18);
        nothing("purse(0, 60)", x -> x.purse(0, 60), 5);
        promise(19);
        nothing("takes(0)", x -> x.takes(0), 2);
        promise(23);
        nothing("find(3, 3, 1)", x -> x.find(3, 3, 1), 2);
        promise(24);
        nothing("hum(3, 3, 1)", x -> x.hum(3, 3, 1), 2);
        promise(25);
        nothing("spinsters()", TuneApproval::spinsters, 1);
        promise(26);
        nothing("pair(0, 0)", x -> x.pair(0, 0), 0);
        promise(27);
        nothing("frayed(0)", x -> x.frayed(0), 2);
        promise(29);
        nothing("sale(1, 0)", x -> x.sale(1, 0), 4);
        promise(30);
        nothing("swap(0)", x -> x.swap(0), NONE);
        promise(31);
        nothing("idle()", TuneApproval::idle, 5);
        promise(32);
        nothing("fashion()", TuneApproval::fashion, 1);
        promise(33);
        nothing("due(0)", x -> x.due(0), 2);
        promise(34);
        nothing("along(0, 9)", x -> x.along(0, 9), 7);
        promise(35);
        nothing("alike(0, 1)", x -> x.alike(0, 1), 0);
        promise(36);
        nothing("law(0, 999)", x -> x.law(0, 999), 3);
        promise(37);
        nothing("favourite()", TuneApproval::favourite, 1);
        promise(38);
        nothing("earned()", TuneApproval::earned, 7);
        promise(39);
        nothing("odds(4, 0)", x -> x.odds(4, 0), 1);
        promise(40);
        nothing("lies(2)", x -> x.lies(2), 2);
    }

    // ---- promises 17 and 18

    private static void wills() {
        promise(17);
        for (int n : new int[] {-1, 61, MIN, MAX}) {
            nothing("will(0, " + n + ", 0)", x -> x.will(0, n, 0), -2);
            nothing("will(0, " + n + ", 1)", x -> x.will(0, n, 1), -2);
        }
        for (int what : new int[] {-1, 2, MIN, MAX}) {
            nothing("will(0, 0, " + what + ")", x -> x.will(0, 0, what), -2);
        }
        for (int tune : new int[] {-1, 3, MIN, MAX}) {
            nothing("will(" + tune + ", 0, 0)", x -> x.will(tune, 0, 0), -2);
        }
        TuneApproval x = busy();
        int[] now = {1, -1, 10};
        int[] behindTwo = {-1, -1, 10};
        for (int tune = 0; tune < 3; tune++) {
            due("will(" + tune + ", 0, 0)", x.will(tune, 0, 0), now[tune]);
            due("will(" + tune + ", 0, 1)", x.will(tune, 0, 1), now[tune]);
            due("will(" + tune + ", 1, 0)", x.will(tune, 1, 0), now[tune]);
            due("will(" + tune + ", 2, 0)", x.will(tune, 2, 0), behindTwo[tune]);
            due("will(" + tune + ", 60, 0)", x.will(tune, 60, 0), behindTwo[tune]);
        }
        // the last house has number 3: 13 if it is paid for
        TuneApproval y = told(FIVE_TUNES + FOUR_HOUSES);
        y.bring(3, 3);
        y.bring(4, 0);
        due("will(3, 0, 0)", y.will(3, 0, 0), 3);
        due("will(3, 1, 0)", y.will(3, 1, 0), 13);
        due("will(4, 1, 0)", y.will(4, 1, 0), -1);
        due("will(5, 0, 0)", y.will(5, 0, 0), -2);
    }

    private static void willHum() {
        promise(17);
        // 3 -> 482 -> 105 -> 456 -> 543 -> 462 -> 365 -> 76 -> 483: the eighth week is the first without humming at 83
        TuneApproval x = told(TUNE_A + HOUSE_A + "draw 3;hums 83;");
        x.bring(0, 0);
        due("will(0, 7, 1)", x.will(0, 7, 1), 0);
        due("will(0, 8, 1)", x.will(0, 8, 1), 10);
        due("will(0, 1, 0)", x.will(0, 1, 0), 10);
        x.week();
        due("will(0, 6, 1)", x.will(0, 6, 1), 0);
        due("will(0, 7, 1)", x.will(0, 7, 1), 10);
        promise(18);
        due("purse(0, 0)", x.purse(0, 0), 9);
        due("purse(0, 1)", x.purse(0, 1), 8);
        TuneApproval y = told(TUNE_A + HOUSE_A + "hums 100;");
        y.bring(0, 0);
        promise(17);
        due("will(0, 60, 1)", y.will(0, 60, 1), 0);
        due("will(0, 60, 0)", y.will(0, 60, 0), 10);
    }

    private static void weeksAndWornCount() {
        promise(17);
        // a week of three is gone
        TuneApproval x = told("approval 3;" + TUNE_A + HOUSE_A);
        x.bring(0, 0);
        x.week();
        due("will(0, 2, 0)", x.will(0, 2, 0), 10);
        due("will(0, 1, 0)", x.will(0, 1, 0), 0);
        promise(18);
        due("purse(0, 1)", x.purse(0, 1), 9);
        due("purse(0, 2)", x.purse(0, 2), 8);
        // one that was worn is worn more by what is to come: the third time it is liked, and paid for
        TuneApproval y = told(TUNE_A + HOUSE_A + "glad worn=2;");
        y.bring(0, 0);
        y.week();
        y.bring(0, 0);
        promise(17);
        due("will(0, 1, 0)", y.will(0, 1, 0), -1);
        y.week();
        y.bring(0, 0);
        due("will(0, 1, 0)", y.will(0, 1, 0), 10);
        promise(18);
        due("purse(0, 1)", y.purse(0, 1), 8);
    }

    private static void pursesToCome() {
        promise(18);
        for (int n : new int[] {-1, 61, MIN, MAX}) {
            nothing("purse(0, " + n + ")", x -> x.purse(0, n), NONE);
        }
        for (int house : new int[] {-1, 3, MIN, MAX}) {
            nothing("purse(" + house + ", 0)", x -> x.purse(house, 0), NONE);
        }
        TuneApproval x = told("approval 9;tune a price 9 notes 0 0 0;" + HOUSE_A + ALWAYS);
        x.bring(0, 0);
        due("purse(0, 0)", x.purse(0, 0), 9);
        due("purse(0, 8)", x.purse(0, 8), 9);
        due("purse(0, 9)", x.purse(0, 9), 0);
        due("purse(0, 60)", x.purse(0, 60), 0);
        TuneApproval y = told(FOUR_HOUSES);
        due("purse(3, 60)", y.purse(3, 60), 99);
        due("purse(4, 60)", y.purse(4, 60), NONE);
    }

    // ---- promise 19

    private static int takesBy(int price, int purse, String glad) {
        return told("approval 3;tune a price " + price + " notes 0 0 0;house a at 0 purse " + purse + " likes 0 0 0;glad " + glad + ";").takes(0);
    }

    private static void takesAtTheEdges() {
        promise(19);
        due("price 5, purse 5", takesBy(5, 5, "1"), 1);
        due("price 5, purse 6", takesBy(5, 6, "1"), 1);
        due("price 6, purse 5", takesBy(6, 5, "1"), 0);
        due("price 0, purse 0", takesBy(0, 0, "1"), 1);
        due("glad 0", takesBy(0, 9, "0"), 0);
        due("glad -1", takesBy(0, 9, "0-1"), 0);
        // as if on approval for three weeks, and with the purse as it is before it pays
        due("glad by weeks", takesBy(0, 9, "weeks=3"), 1);
        due("glad by weeks", takesBy(0, 9, "weeks=0"), 0);
        due("glad by purse", takesBy(5, 9, "purse=9"), 1);
        // even if it is there for longer already
        TuneApproval y = told(TUNE_A + HOUSE_A + "hums 100;glad weeks=1;");
        y.bring(0, 0);
        y.week();
        y.week();
        due("tune(0, 5)", y.tune(0, 5), 2);
        due("takes(0)", y.takes(0), 1);
        for (int house : new int[] {-1, 3, MIN, MAX}) {
            nothing("takes(" + house + ")", z -> z.takes(house), NONE);
        }
        due("takes(0) without tunes", told(HOUSE_A).takes(0), 0);
        due("takes(3), all five", told(FIVE_TUNES + FOUR_HOUSES + ALWAYS).takes(3), 31);
        due("takes(0), four", told(FIVE_TUNES + FOUR_HOUSES + ALWAYS).takes(0), 15);
    }

    // ---- promise 20

    private static void rounds() {
        promise(20);
        for (int what : new int[] {-1, 2, MIN, MAX}) {
            nothing("round(" + what + ")", x -> x.round(what), NONE);
        }
        TuneApproval empty = new TuneApproval();
        due("round(0)", empty.round(0), 0);
        due("round(1)", empty.round(1), 0);
        lie(empty);
        TuneApproval noTunes = told(FOUR_HOUSES);
        due("round(0) without tunes", noTunes.round(0), 0);
        lie(noTunes, -1, -1, -1, -1);
        TuneApproval noHouses = told(FIVE_TUNES);
        due("round(1) without houses", noHouses.round(1), 0);
        lie(noHouses);
        // four for four; the dearest, which the last one alone can pay for, is among them, the cheapest is not
        TuneApproval full = told(FIVE_TUNES + FOUR_HOUSES + ALWAYS);
        due("round(0)", full.round(0), 4);
        due("round(1)", full.round(1), 105);
        lie(full, 1, 2, 3, 4);
        // all five cost nothing: the first ones
        TuneApproval free = told(FIVE_TUNES.replaceAll("price \\d+", "price 0") + FOUR_HOUSES + ALWAYS);
        due("round(0)", free.round(0), 4);
        due("round(1)", free.round(1), 0);
        lie(free, 0, 1, 2, 3);
    }

    private static void roundsOfLikeOnes() {
        promise(20);
        String one = " likes 1 1 1;";
        // one tune, two takers: the first house; none is behind all
        TuneApproval x = told("tune a price 1 notes 1 1 1;house a at 0 purse 9" + one + "house b at 0 purse 9" + one);
        due("round(0)", x.round(0), 1);
        lie(x, 0, -1);
        // two tunes, one taker: the dearer one, and of like ones the least
        TuneApproval y = told("tune a price 1 notes 1 1 1;tune b price 2 notes 1 1 1;tune c price 2 notes 1 1 1;house a at 0 purse 9" + one);
        due("round(1)", y.round(1), 2);
        lie(y, 1);
        // two cheap ones go before one dear one
        TuneApproval z = told("tune a price 9 notes 1 1 1;tune b price 1 notes 1 1 1;house a at 0 purse 9" + one + "house b at 0 purse 8" + one);
        due("round(0)", z.round(0), 2);
        due("round(1)", z.round(1), 10);
        lie(z, 0, 1);
        // the first takes either, the second one alone: so the first has the other, though its number is greater
        TuneApproval w = told("tune a price 1 notes 1 1 1;tune b price 2 notes 1 1 1;house a at 0 purse 2" + one + "house b at 0 purse 1" + one);
        due("round(0)", w.round(0), 2);
        lie(w, 1, 0);
        // what it does not take it is not brought: price above the purse by one
        TuneApproval v = told("tune a price 3 notes 1 1 1;house a at 0 purse 2" + one);
        due("round(0)", v.round(0), 0);
        due("round(1)", v.round(1), 0);
        lie(v, -1);
    }

    private static void roundsOfThoseOnTheCart() {
        promise(20);
        TuneApproval x = told(FIVE_TUNES + FOUR_HOUSES);
        due("round(0)", x.round(0), 4);
        lie(x, 0, 1, 2, 3);
        x.bring(4, 0);
        due("round(0), one house has one", x.round(0), 3);
        lie(x, -1, 1, 2, 3);
        x.bring(2, 1);
        due("round(0), another one's tune is away", x.round(0), 1);
        due("round(1)", x.round(1), 3);
        lie(x, -1, -1, -1, 3);
        x.bring(3, 3);
        due("round(0), it has its tune", x.round(0), 0);
        lie(x, -1, -1, -1, -1);
        x.week();
        // the third is back, worn, with the fifth; the fourth is paid for
        due("round(0)", x.round(0), 3);
        lie(x, 0, 1, 2, -1);
    }

    // ---- promise 21

    private static void walks() {
        promise(21);
        for (int place : new int[] {-1, 100, MIN, MAX}) {
            nothing("walk(" + place + ")", x -> x.walk(place), NONE);
        }
        TuneApproval none = new TuneApproval();
        due("walk(0)", none.walk(0), 0);
        lie(none);
        TuneApproval x = told(FOUR_HOUSES);
        // 0 -> 0 -> 10 -> 20 -> 99
        due("walk(0)", x.walk(0), 99);
        lie(x, 1, 0, 2, 3);
        // 99 -> 99 -> 20 -> 10 -> 0
        due("walk(99)", x.walk(99), 99);
        lie(x, 3, 2, 0, 1);
        // 12 -> 10 -> 0 -> 20 -> 99
        due("walk(12)", x.walk(12), 111);
        lie(x, 0, 1, 2, 3);
        // 50 is half way but for a half: 50 -> 99 -> 0 is 148, 50 -> 0 -> 99 is 149
        due("walk(50)", x.walk(50), 148);
        lie(x, 3, 2, 0, 1);
        due("walk(49)", x.walk(49), 148);
        lie(x, 0, 1, 2, 3);
    }

    private static void walksOfLikeLength() {
        promise(21);
        // at one place: by their numbers
        TuneApproval x = told(FOUR_HOUSES.replaceAll("at \\d+", "at 50"));
        due("walk(50)", x.walk(50), 0);
        lie(x, 0, 1, 2, 3);
        due("walk(99)", x.walk(99), 49);
        lie(x, 0, 1, 2, 3);
        // 50 -> 60 -> 40 and 50 -> 40 -> 60
        TuneApproval y = told("house a at 60 purse 0 likes 0 0 0;house b at 40 purse 0 likes 0 0 0;");
        due("walk(50)", y.walk(50), 30);
        lie(y, 0, 1);
        due("walk(49)", y.walk(49), 29);
        lie(y, 1, 0);
        // one that is passed by twice may be come to at the first time or at the second: the first by numbers
        TuneApproval z = told("house a at 70 purse 0 likes 0 0 0;house b at 60 purse 0 likes 0 0 0;house c at 50 purse 0 likes 0 0 0;");
        due("walk(60)", z.walk(60), 30);
        lie(z, 0, 1, 2);
        due("walk(61)", z.walk(61), 29);
        lie(z, 0, 1, 2);
        due("walk(59)", z.walk(59), 29);
        lie(z, 2, 1, 0);
        TuneApproval one = told("house a at 99 purse 0 likes 0 0 0;");
        due("walk(0)", one.walk(0), 99);
        lie(one, 0);
    }

    // ---- promise 22

    private static void barters() {
        promise(22);
        TuneApproval none = new TuneApproval();
        due("barter()", none.barter(), 0);
        lie(none);
        TuneApproval idle = told(FOUR_HOUSES);
        due("barter()", idle.barter(), 0);
        lie(idle, -1, -1, -1, -1);
        // one alone has its own, though it is not glad of it
        TuneApproval one = told(FIVE_TUNES + FOUR_HOUSES + "glad 0-5;");
        one.bring(4, 2);
        due("barter()", one.barter(), -5);
        lie(one, -1, -1, 4, -1);
        // each has the next one's: by a ring all four are glad, by no two of them alone
        TuneApproval ring = told(FIVE_TUNES + FOUR_HOUSES);
        for (int house = 0; house < 4; house++) {
            ring.bring((house + 1) % 4, house);
        }
        due("barter()", ring.barter(), 24);
        lie(ring, 0, 1, 2, 3);
        promise(30);
        due("swap(0)", ring.swap(0), NONE);
    }

    private static void bartersOfLikeOnes() {
        promise(22);
        // all are as glad of all: the least tune for the first house
        TuneApproval x = told(FIVE_TUNES + FOUR_HOUSES + ALWAYS);
        x.bring(4, 0);
        x.bring(2, 1);
        x.bring(3, 3);
        due("barter()", x.barter(), 3);
        lie(x, 2, 3, -1, 4);
        // one paid for is not among them
        TuneApproval y = told(FIVE_TUNES + FOUR_HOUSES + ALWAYS);
        y.bring(0, 0);
        y.week();
        y.bring(2, 0);
        y.bring(1, 1);
        due("barter()", y.barter(), 2);
        lie(y, 1, 2, -1, -1);
    }

    private static void barterMakesNoneLessGlad() {
        promise(22);
        // house 0 gains 10 by tune 1, house 1 loses 1 by tune 0
        String two = "tune a price 1 notes 0 0 0;tune b price 11 notes 0 0 0;house a at 0 purse 1 likes 0 0 0;house b at 0 purse 0 likes 0 0 0;";
        TuneApproval x = told(two + "glad purse*price+(purse=0)*(price=11);");
        x.bring(0, 0);
        x.bring(1, 1);
        due("barter()", x.barter(), 2);
        lie(x, 0, 1);
        // as glad as now is not less
        TuneApproval y = told(two + "glad purse*price;");
        y.bring(0, 0);
        y.bring(1, 1);
        due("barter()", y.barter(), 11);
        lie(y, 1, 0);
        // an own one has its weeks, a new one 0: behind a week of gladness by weeks each keeps its own
        TuneApproval z = told("approval 9;" + two + "glad weeks;");
        z.bring(1, 0);
        z.bring(0, 1);
        due("barter()", z.barter(), 0);
        lie(z, 0, 1);
        z.week();
        due("barter()", z.barter(), 2);
        lie(z, 1, 0);
    }

    // ---- promises 23 and 24

    private static void findsAndHums() {
        for (int no : new int[] {-1, 7, MIN, MAX}) {
            promise(23);
            nothing("find(" + no + ", 0, 0)", x -> x.find(no, 0, 0), NONE);
            nothing("find(0, " + no + ", 0)", x -> x.find(0, no, 0), NONE);
            nothing("find(0, 0, " + no + ")", x -> x.find(0, 0, no), NONE);
            promise(24);
            nothing("hum(" + no + ", 0, 0)", x -> x.hum(no, 0, 0), NONE);
            nothing("hum(0, " + no + ", 0)", x -> x.hum(0, no, 0), NONE);
            nothing("hum(0, 0, " + no + ")", x -> x.hum(0, 0, no), NONE);
        }
        TuneApproval x = told("tune a price 0 notes 0 6 3;tune b price 0 notes 0 6 3 1;tune c price 0 notes 1 0 6 3;"
                + "tune d price 0 notes 0 6 1 3;tune e price 0 notes 0 0 0 0 0 0 6 3;");
        promise(23);
        due("find(0, 6, 3)", x.find(0, 6, 3), 23);
        due("find(3, 6, 0)", x.find(3, 6, 0), 0);
        due("find(6, 3, 1)", x.find(6, 3, 1), 2);
        due("find(0, 0, 0)", x.find(0, 0, 0), 16);
        due("find(6, 3, 0)", x.find(6, 3, 0), 0);
        promise(24);
        due("hum(0, 6, 3)", x.hum(0, 6, 3), 21);
        due("hum(3, 6, 0)", x.hum(3, 6, 0), 0);
        due("hum(6, 3, 1)", x.hum(6, 3, 1), 2);
        due("hum(6, 1, 3)", x.hum(6, 1, 3), 8);
        due("hum(0, 0, 0)", x.hum(0, 0, 0), 0);
    }

    private static void findsInWhatIsLeft() {
        TuneApproval x = told("tune a price 0 notes 1 2 3 4 5;house a at 0 purse 0 likes 0 0 0;glad 0;");
        int[] first = {1, 0, 0, 0};
        int[] second = {1, 1, 0, 0};
        for (int worn = 0; worn < 4; worn++) {
            promise(23);
            due("find(1, 2, 3), worn " + worn, x.find(1, 2, 3), first[worn]);
            due("find(2, 3, 4), worn " + worn, x.find(2, 3, 4), second[worn]);
            due("find(3, 4, 5), worn " + worn, x.find(3, 4, 5), 1);
            promise(24);
            due("hum(3, 4, 5), worn " + worn, x.hum(3, 4, 5), 1);
            due("hum(2, 3, 4), worn " + worn, x.hum(2, 3, 4), 0);
            x.bring(0, 0);
            x.week();
        }
    }

    // ---- promises 25 to 27

    private static void spinstersAtTheEdges() {
        promise(25);
        due("spinsters() of none", new TuneApproval().spinsters(), 0);
        due("spinsters() without tunes", told(FOUR_HOUSES).spinsters(), 0);
        due("spinsters() without houses", told(FIVE_TUNES).spinsters(), 31);
        due("spinsters()", told(FIVE_TUNES + FOUR_HOUSES).spinsters(), 16);
        due("spinsters()", told(FIVE_TUNES + FOUR_HOUSES + ALWAYS).spinsters(), 0);
        due("spinsters()", told(FIVE_TUNES + FOUR_HOUSES + "glad 0;").spinsters(), 31);
        // the one who would take it may have another on approval, or this one; another one may have paid for it
        TuneApproval x = told(FIVE_TUNES + FOUR_HOUSES);
        x.bring(4, 0);
        x.bring(1, 2);
        due("spinsters()", x.spinsters(), 16);
        TuneApproval y = told(TUNE_A + HOUSE_A);
        y.bring(0, 0);
        y.week();
        due("spinsters(), paid for", y.spinsters(), 0);
    }

    private static void pairs() {
        promise(26);
        for (int tune : new int[] {-1, 3, MIN, MAX}) {
            nothing("pair(" + tune + ", 0)", x -> x.pair(tune, 0), NO_GLAD);
        }
        for (int what : new int[] {-1, 2, MIN, MAX}) {
            nothing("pair(0, " + what + ")", x -> x.pair(0, what), NO_GLAD);
        }
        due("pair(0, 0) of none", new TuneApproval().pair(0, 0), NO_GLAD);
        due("pair(0, 0) without houses", told(TUNE_A).pair(0, 0), NO_GLAD);
        due("pair(0, 1) without houses", told(TUNE_A).pair(0, 1), NO_GLAD);
        due("pair(0, 0) without tunes", told(HOUSE_A).pair(0, 0), NO_GLAD);
        TuneApproval x = told(FIVE_TUNES + FOUR_HOUSES);
        for (int tune = 0; tune < 4; tune++) {
            due("pair(" + tune + ", 0)", x.pair(tune, 0), tune);
            due("pair(" + tune + ", 1)", x.pair(tune, 1), 6);
        }
        due("pair(4, 0), all alike", x.pair(4, 0), 0);
        due("pair(4, 1), all alike", x.pair(4, 1), 0);
        due("pair(5, 0)", x.pair(5, 0), NO_GLAD);
        // gladdest may be below 0, at the least, too
        TuneApproval y = told(FIVE_TUNES + FOUR_HOUSES + "glad 0-9999;");
        due("pair(0, 0)", y.pair(0, 0), 0);
        due("pair(0, 1)", y.pair(0, 1), -9999);
        TuneApproval z = told(FIVE_TUNES + FOUR_HOUSES + "glad purse-100;");
        due("pair(0, 0)", z.pair(0, 0), 3);
        due("pair(0, 1)", z.pair(0, 1), -1);
    }

    private static void frays() {
        promise(27);
        for (int tune : new int[] {-1, 3, MIN, MAX}) {
            nothing("frayed(" + tune + ")", x -> x.frayed(tune), NONE);
        }
        due("frayed(0) of none", new TuneApproval().frayed(0), NONE);
        for (int notes = 3; notes <= 8; notes++) {
            TuneApproval x = told("tune a price 0 notes" + " 0".repeat(notes) + ";house a at 0 purse 0 likes 0 0 0;glad 0;");
            for (int worn = 0; worn <= notes - 2; worn++) {
                due("frayed(0) of " + notes + ", worn " + worn, x.frayed(0), Math.max(0, notes - 3 - worn));
                x.bring(0, 0);
                x.week();
            }
        }
    }

    // ---- promise 28

    private static void rivalsThatCantBe() {
        promise(28);
        TuneApproval x = busy();
        due("rivals(0, 1)", x.rivals(0, 1), 1);
        lie(x, 1, 1);
        int[][] cant = {{0, 0}, {2, 2}, {0, 3}, {3, 0}, {-1, 0}, {0, -1}, {MIN, 0}, {0, MAX}, {3, 3}, {-1, -1}};
        for (int[] two : cant) {
            String name = "rivals(" + two[0] + ", " + two[1] + ")";
            TuneApproval y = busy();
            due(name, y.rivals(two[0], two[1]), NONE);
            lie(y);
            // all but what lies there stays
            y.walk(0);
            alike(name, y, busy());
        }
        due("rivals(0, 1) of none", new TuneApproval().rivals(0, 1), NONE);
        due("rivals(0, 1) without tunes", told(FOUR_HOUSES).rivals(0, 1), NONE);
        due("rivals(0, 1) without houses", told(FIVE_TUNES).rivals(0, 1), NONE);
        TuneApproval z = busy();
        z.bring(1, 2);
        due("about(3)", z.about(3), 0);
        due("rivals(0, 1), none on the cart", z.rivals(0, 1), NONE);
        lie(z);
    }

    private static void rests() {
        promise(28);
        String two = "tune a price 0 notes 0 0 0;tune b price 0 notes 1 1 1;";
        String houses = "house a at 0 purse 1 likes 0 0 0;house b at 0 purse 2 likes 1 1 1;";
        // each likes its own, and is not sorry for the other one's: having that, both would have nothing by their own
        TuneApproval x = told(two + houses);
        due("rivals(0, 1)", x.rivals(0, 1), 2);
        lie(x, 0, 1);
        due("rivals(1, 0)", x.rivals(1, 0), 2);
        lie(x, 0, 1);
        // sorry for the other one's, either would rather have nothing
        TuneApproval own = told(two + houses + "glad same-1;");
        due("rivals(0, 1)", own.rivals(0, 1), 1);
        lie(own, 0, 1);
        due("rivals(1, 0)", own.rivals(1, 0), 1);
        lie(own, 1, 0);
        // nobody cares: all are rests, of all of which the first has the least numbers
        TuneApproval y = told(two + houses + "glad 0;");
        due("rivals(0, 1)", y.rivals(0, 1), 4);
        lie(y, 0, 0);
        due("rivals(0, 3), five tunes", told(FIVE_TUNES + FOUR_HOUSES + "glad 0;").rivals(0, 3), 25);
        // both are sorry for what they have: they ask for one
        TuneApproval z = told(two + houses + "glad 0-1;");
        due("rivals(0, 1)", z.rivals(0, 1), 2);
        lie(z, 0, 0);
        // both are glad of all: never for one
        TuneApproval w = told(two + houses + ALWAYS);
        due("rivals(0, 1)", w.rivals(0, 1), 2);
        lie(w, 0, 1);
        due("rivals(0, 3), five tunes", told(FIVE_TUNES + FOUR_HOUSES + ALWAYS).rivals(0, 3), 20);
        // one is glad of all, one is sorry for all: one always would ask for another
        TuneApproval v = told(two + houses + "glad (purse=1)*2-1;");
        due("rivals(0, 1)", v.rivals(0, 1), 0);
        lie(v);
        // one tune alone: both ask for it
        TuneApproval u = told(TUNE_A + houses);
        due("rivals(0, 1)", u.rivals(0, 1), 1);
        lie(u, 0, 0);
    }

    private static void rivalsAskForThoseOnTheCart() {
        promise(28);
        TuneApproval x = told(FIVE_TUNES + FOUR_HOUSES + "glad same+turn*3-weeks;");
        x.bring(0, 2);
        x.bring(1, 3);
        // the first two have nothing left that they like: 0 for what is left, all the same
        due("rivals(0, 1)", x.rivals(0, 1), 9);
        lie(x, 2, 2);
        // the two who have tunes ask all the same: each for its own, or each for the other one's
        due("rivals(2, 3)", x.rivals(2, 3), 2);
        lie(x, 2, 3);
        due("rivals(3, 2)", x.rivals(3, 2), 2);
        lie(x, 2, 3);
    }

    // ---- promise 29

    private static TuneApproval saleOf(int purse, int... prices) {
        StringBuilder text = new StringBuilder();
        for (int i = 0; i < prices.length; i++) {
            text.append("tune ").append((char) ('a' + i)).append(" price ").append(prices[i]).append(" notes 0 0 0;");
        }
        return told(text + "house a at 0 purse " + purse + " likes 0 0 0;");
    }

    private static void saleIs(TuneApproval x, int price, int bits) {
        due("sale(0, 0)", x.sale(0, 0), price);
        due("sale(0, 1)", x.sale(0, 1), bits);
    }

    private static void sales() {
        promise(29);
        for (int house : new int[] {-1, 3, MIN, MAX}) {
            nothing("sale(" + house + ", 0)", x -> x.sale(house, 0), NONE);
        }
        for (int what : new int[] {-1, 2, MIN, MAX}) {
            nothing("sale(0, " + what + ")", x -> x.sale(0, what), NONE);
        }
        due("sale(0, 0) of none", new TuneApproval().sale(0, 0), NONE);
        saleIs(told(HOUSE_A), 0, 0);
        saleIs(saleOf(5, 5), 5, 1);
        saleIs(saleOf(4, 5), 0, 0);
        saleIs(saleOf(6, 5), 5, 1);
        saleIs(saleOf(5, 2, 3), 5, 3);
        saleIs(saleOf(4, 2, 3), 3, 2);
        saleIs(saleOf(99, 20, 20, 20, 20, 19), 99, 31);
        saleIs(saleOf(98, 20, 20, 20, 20, 19), 80, 15);
        // what costs nothing makes it no dearer: the fewest
        saleIs(saleOf(5, 0, 5), 5, 2);
        saleIs(saleOf(5, 0, 0), 0, 0);
        // of like ones the fewest, then the least set as bits
        saleIs(saleOf(5, 2, 3, 5), 5, 4);
        saleIs(saleOf(5, 1, 2, 3, 4), 5, 6);
        saleIs(saleOf(4, 4, 4), 4, 1);
        saleIs(saleOf(5, 1, 1, 1, 2, 3), 5, 24);
        saleIs(saleOf(3, 1, 1, 1, 2, 2), 3, 9);
    }

    private static void salesOfThoseOnTheCart() {
        promise(29);
        TuneApproval x = saleOf(10, 4, 5, 6);
        saleIs(x, 10, 5);
        x.bring(0, 0);
        saleIs(x, 6, 4);
        x.week();
        // paid for, 6 are left
        saleIs(x, 6, 4);
        x.fill(0, 5);
        saleIs(x, 11, 6);
        x.give(0);
        saleIs(x, 11, 6);
        x.fill(0, 1);
        saleIs(x, 11, 6);
        x.fill(0, 3);
        saleIs(x, 15, 7);
        // with the purse as it is now, not as it would be behind the first
        TuneApproval y = told("tune a price 5 notes 0 0 0;tune b price 5 notes 0 0 0;house a at 0 purse 10 likes 0 0 0;glad purse=10;");
        saleIs(y, 10, 3);
        // only what it takes
        TuneApproval z = told("tune a price 5 notes 0 0 0;tune b price 5 notes 1 1 1;house a at 0 purse 10 likes 1 1 1;");
        saleIs(z, 5, 2);
    }

    // ---- promises 30 to 34

    private static void swaps() {
        promise(30);
        for (int what : new int[] {-1, 2, MIN, MAX}) {
            nothing("swap(" + what + ")", x -> x.swap(what), NONE);
        }
        due("swap(0) of none", new TuneApproval().swap(0), NONE);
        // the last two have each other's
        TuneApproval x = told(FIVE_TUNES + FOUR_HOUSES);
        x.bring(3, 2);
        due("swap(0), one has none", x.swap(0), NONE);
        x.bring(2, 3);
        due("swap(0)", x.swap(0), 2);
        due("swap(1)", x.swap(1), 3);
        due("swap(2)", x.swap(2), NONE);
        due("swap(-1)", x.swap(-1), NONE);
        // the first two go before them
        x.bring(1, 0);
        x.bring(0, 1);
        due("swap(0)", x.swap(0), 0);
        due("swap(1)", x.swap(1), 1);
        // as glad as now is not gladder, on either side
        TuneApproval y = told(FIVE_TUNES + FOUR_HOUSES);
        y.bring(1, 0);
        y.bring(4, 1);
        due("swap(0)", y.swap(0), NONE);
        TuneApproval z = told(FIVE_TUNES + FOUR_HOUSES);
        z.bring(4, 0);
        z.bring(0, 1);
        due("swap(0)", z.swap(0), NONE);
        // what is paid for is not swapped
        TuneApproval w = told("approval 1;" + FIVE_TUNES + FOUR_HOUSES + "glad same+turn*3+1;");
        w.bring(1, 0);
        w.bring(0, 1);
        due("swap(0)", w.swap(0), 0);
        w.week();
        due("swap(0)", w.swap(0), NONE);
    }

    private static void swapsByWeeks() {
        promise(30);
        TuneApproval x = told("approval 9;" + FIVE_TUNES + FOUR_HOUSES + "glad 0-weeks;");
        x.bring(0, 1);
        x.bring(1, 3);
        due("swap(0)", x.swap(0), NONE);
        x.week();
        due("swap(0)", x.swap(0), 1);
        due("swap(1)", x.swap(1), 3);
    }

    private static void idles() {
        promise(31);
        due("idle() of none", new TuneApproval().idle(), 0);
        due("idle() without houses", told(FIVE_TUNES).idle(), 0);
        TuneApproval x = told(FIVE_TUNES + FOUR_HOUSES);
        int[] left = {15, 14, 12, 8, 0};
        for (int house = 0; house < 4; house++) {
            due("idle()", x.idle(), left[house]);
            x.bring(house, house);
        }
        due("idle()", x.idle(), 0);
        x.fetch(2);
        due("idle()", x.idle(), 4);
        x.week();
        due("idle(), paid for", x.idle(), 15);
    }

    private static void fashions() {
        promise(32);
        due("fashion() of none", new TuneApproval().fashion(), NONE);
        due("fashion() without houses", told(FIVE_TUNES).fashion(), NONE);
        due("fashion()", told(FOUR_HOUSES).fashion(), 0);
        due("fashion()", told("house a at 0 purse 0 likes 6 6 6;").fashion(), 6);
        due("fashion()", told("house a at 0 purse 0 likes 6 5 4;").fashion(), 4);
        // thrice in one house is once, twice in two are twice
        due("fashion()", told("house a at 0 purse 0 likes 0 0 0;house b at 0 purse 0 likes 1 2 6;house c at 0 purse 0 likes 6 3 4;").fashion(), 6);
        due("fashion()", told("house a at 0 purse 0 likes 5 6 0;house b at 0 purse 0 likes 6 5 1;").fashion(), 5);
    }

    private static void dues() {
        promise(33);
        for (int tune : new int[] {-1, 3, 1, 2, MIN, MAX}) {
            nothing("due(" + tune + ")", x -> x.due(tune), NONE);
        }
        for (int approval = 1; approval <= 9; approval++) {
            TuneApproval x = told("approval " + approval + ";" + TUNE_A + HOUSE_A);
            x.bring(0, 0);
            for (int n = 0; n < approval; n++) {
                due("due(0)", x.due(0), approval - n);
                x.week();
            }
            due("due(0), paid for", x.due(0), NONE);
            x.give(0);
            due("due(0), on the cart", x.due(0), NONE);
        }
        // hummed again and again: the next week without it decides
        TuneApproval y = told("approval 2;" + TUNE_A + HOUSE_A + "hums 100;");
        y.bring(0, 0);
        int[] weeks = {2, 1, 1, 1, 1};
        for (int week : weeks) {
            due("due(0)", y.due(0), week);
            y.week();
        }
    }

    private static void alongs() {
        promise(34);
        for (int no : new int[] {-1, 100, MIN, MAX}) {
            nothing("along(" + no + ", 5)", x -> x.along(no, 5), NONE);
            nothing("along(5, " + no + ")", x -> x.along(5, no), NONE);
        }
        TuneApproval x = told(FOUR_HOUSES);
        due("along(0, 99)", x.along(0, 99), 15);
        due("along(99, 0)", x.along(99, 0), 15);
        due("along(0, 0)", x.along(0, 0), 2);
        due("along(99, 99)", x.along(99, 99), 8);
        due("along(10, 20)", x.along(10, 20), 5);
        due("along(20, 10)", x.along(20, 10), 5);
        due("along(11, 20)", x.along(11, 20), 4);
        due("along(10, 19)", x.along(10, 19), 1);
        due("along(11, 19)", x.along(11, 19), 0);
        due("along(1, 98)", x.along(1, 98), 5);
        due("along(0, 99) of none", new TuneApproval().along(0, 99), 0);
    }

    // ---- promises 35 to 40

    private static void alikes() {
        promise(35);
        for (int no : new int[] {-1, 3, MIN, MAX}) {
            nothing("alike(" + no + ", 0)", x -> x.alike(no, 0), NONE);
            nothing("alike(0, " + no + ")", x -> x.alike(0, no), NONE);
        }
        TuneApproval x = told("tune a price 0 notes 0 1 2 3 4 5 6 0;tune b price 0 notes 0 1 2 3 4 5 6 0;tune c price 0 notes 5 6 0;"
                + "tune d price 0 notes 5 6 1;tune e price 0 notes 6 1 2 3 4 5 6 0;house a at 0 purse 0 likes 0 0 0;glad 0;");
        due("alike(0, 1)", x.alike(0, 1), 8);
        due("alike(0, 2)", x.alike(0, 2), 3);
        due("alike(2, 0)", x.alike(2, 0), 3);
        due("alike(2, 3)", x.alike(2, 3), 0);
        due("alike(0, 4)", x.alike(0, 4), 7);
        due("alike(4, 4)", x.alike(4, 4), 8);
        due("alike(5, 5)", x.alike(5, 5), NONE);
        // what is left of the first gets less: 7 .. 3
        for (int worn = 1; worn <= 6; worn++) {
            x.bring(0, 0);
            x.week();
            int left = Math.max(3, 8 - worn);
            due("alike(0, 1), worn " + worn, x.alike(0, 1), left);
            due("alike(4, 0), worn " + worn, x.alike(4, 0), left);
        }
        // the first that differs ends it, whatever comes before it
        due("alike(0, 1)", told("tune a price 0 notes 1 2 3 4;tune b price 0 notes 1 2 5 4;").alike(0, 1), 1);
    }

    private static void laws() {
        promise(36);
        for (int n : new int[] {-1, 1000, MIN, MAX}) {
            nothing("law(0, " + n + ")", x -> x.law(0, n), NONE);
        }
        for (int house : new int[] {-1, 3, MIN, MAX}) {
            nothing("law(" + house + ", 0)", x -> x.law(house, 0), NONE);
        }
        TuneApproval x = told(FIVE_TUNES + FOUR_HOUSES + ALWAYS);
        int[] atMost = {1, 2, 3, 4, 4};
        for (int n = 0; n < 5; n++) {
            due("law(0, " + n + ")", x.law(0, n), atMost[n]);
        }
        due("law(0, 98)", x.law(0, 98), 4);
        due("law(0, 99)", x.law(0, 99), 5);
        due("law(0, 999)", x.law(0, 999), 5);
        due("house(0, 1)", x.house(0, 1), 9);
        due("law(0, 0) without tunes", told(HOUSE_A).law(0, 0), 0);
        due("law(0, 999)", told(TUNE_A + HOUSE_A + "glad purse=999;").law(0, 999), 1);
    }

    private static void favourites() {
        promise(37);
        due("favourite() of none", new TuneApproval().favourite(), NONE);
        due("favourite() without tunes", told(FOUR_HOUSES).favourite(), NONE);
        due("favourite() without houses", told(FIVE_TUNES).favourite(), 0);
        due("favourite(), none takes any", told(FIVE_TUNES + FOUR_HOUSES + "glad 0;").favourite(), 0);
        due("favourite(), one each", told(FIVE_TUNES + FOUR_HOUSES).favourite(), 0);
        due("favourite()", told(FIVE_TUNES + FOUR_HOUSES + "glad price=3;").favourite(), 3);
        due("favourite()", told(FIVE_TUNES + FOUR_HOUSES + "glad price>1;").favourite(), 2);
        due("favourite()", told(FIVE_TUNES + FOUR_HOUSES + "glad price=99;").favourite(), 4);
    }

    private static void earnings() {
        promise(38);
        due("earned() of none", new TuneApproval().earned(), 0);
        TuneApproval x = told(FIVE_TUNES + FOUR_HOUSES + ALWAYS);
        due("earned()", x.earned(), 0);
        x.bring(0, 0);
        x.bring(1, 1);
        x.bring(2, 2);
        x.bring(4, 3);
        due("earned(), on approval", x.earned(), 0);
        x.week();
        due("earned()", x.earned(), 102);
        x.give(4);
        due("earned()", x.earned(), 3);
    }

    private static void odds(int hums, int n, int upper, int lower) {
        TuneApproval x = told("hums " + hums + ";");
        due("odds(" + n + ", 0) at " + hums, x.odds(n, 0), upper);
        due("odds(" + n + ", 1) at " + hums, x.odds(n, 1), lower);
    }

    private static void oddsAtTheEdges() {
        promise(39);
        for (int n : new int[] {-1, 5, MIN, MAX}) {
            nothing("odds(" + n + ", 0)", x -> x.odds(n, 0), NONE);
            nothing("odds(" + n + ", 1)", x -> x.odds(n, 1), NONE);
        }
        for (int part : new int[] {-1, 2, MIN, MAX}) {
            nothing("odds(0, " + part + ")", x -> x.odds(0, part), NONE);
        }
        for (int hums : new int[] {0, 1, 37, 99, 100}) {
            odds(hums, 0, 1, 1);
        }
        for (int n = 1; n <= 4; n++) {
            odds(0, n, 1, 1);
            odds(100, n, 0, 1);
            odds(50, n, 1, 1 << n);
        }
        odds(99, 1, 1, 100);
        odds(99, 4, 1, 100000000);
        odds(1, 1, 99, 100);
        odds(1, 4, 96059601, 100000000);
        odds(2, 2, 2401, 2500);
        odds(25, 3, 27, 64);
        odds(80, 4, 1, 625);
        // whatever the SEED is
        TuneApproval x = told(TUNE_A + HOUSE_A + "draw 17;hums 1;");
        due("odds(1, 0)", x.odds(1, 0), 99);
        x.bring(0, 0);
        x.week();
        due("odds(1, 0)", x.odds(1, 0), 99);
    }

    private static void whatLiesThere() {
        promise(40);
        TuneApproval x = told(FIVE_TUNES + FOUR_HOUSES);
        lie(x);
        x.round(0);
        lie(x, 0, 1, 2, 3);
        x.walk(0);
        lie(x, 1, 0, 2, 3);
        x.barter();
        lie(x, -1, -1, -1, -1);
        x.rivals(0, 1);
        lie(x, 0, 1);
        for (int i : new int[] {-1, 2, 3, 4, MIN, MAX}) {
            due("lies(" + i + ")", x.lies(i), -2);
        }
        // what is done behind it leaves it, and so do those that can't be
        x.bring(0, 0);
        x.week();
        x.undo();
        x.image(0);
        x.restore(0);
        x.round(2);
        x.walk(100);
        lie(x, 0, 1);
        x.rivals(0, 0);
        lie(x);
        x.walk(99);
        lie(x, 3, 2, 0, 1);
        put(x, "?");
        x.lane();
        lie(x, 3, 2, 0, 1);
        x.end(0);
        x.lane();
        lie(x);
    }

    public static void main(String[] args) {
        nothingIsDone();
        wills();
        willHum();
        weeksAndWornCount();
        pursesToCome();
        takesAtTheEdges();
        rounds();
        roundsOfLikeOnes();
        roundsOfThoseOnTheCart();
        walks();
        walksOfLikeLength();
        barters();
        bartersOfLikeOnes();
        barterMakesNoneLessGlad();
        findsAndHums();
        findsInWhatIsLeft();
        spinstersAtTheEdges();
        pairs();
        frays();
        rivalsThatCantBe();
        rests();
        rivalsAskForThoseOnTheCart();
        sales();
        salesOfThoseOnTheCart();
        swaps();
        swapsByWeeks();
        idles();
        fashions();
        dues();
        alongs();
        alikes();
        laws();
        favourites();
        earnings();
        oddsAtTheEdges();
        whatLiesThere();
        report("AskedEdgesTest");
    }
}
