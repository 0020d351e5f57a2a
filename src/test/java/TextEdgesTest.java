/** The edges that the document names of the tape, the text, its tokens, limits and faults (promises 1 to 5). */
public final class TextEdgesTest extends Checks {
    private static final String[] OWN_WORDS = {"approval", "tune", "price", "notes", "house", "at", "purse", "likes", "glad",
        "hums", "draw", "or", "and", "not", "same", "turn", "long", "worn", "weeks"};
    private static final String FIVE_TUNES = "tune a price 0 notes 0 0 0;tune b price 0 notes 0 0 0;tune c price 0 notes 0 0 0;"
            + "tune d price 0 notes 0 0 0;tune e price 0 notes 0 0 0;";
    private static final String FOUR_HOUSES = "house a at 0 purse 0 likes 0 0 0;house b at 0 purse 0 likes 0 0 0;"
            + "house c at 0 purse 0 likes 0 0 0;house d at 0 purse 0 likes 0 0 0;";
    // One line of each sort; its tokens are parted by one blank each.
    private static final String[] LINES = {"approval 1 ;", "tune a price 0 notes 0 1 2 ;", "tune a price 9 notes 0 1 2 3 4 5 6 0 ;",
        "house a at 0 purse 0 likes 0 1 2 ;", "glad 1 ;", "glad not ( same + 1 ) * 2 < 3 and turn or long = 5 % 2 / 1 - 1 or 1 > 0 ;",
        "hums 0 ;", "draw 0 ;"};

    private static boolean isLetter(int sign) {
        return sign >= 'a' && sign <= 'z';
    }

    private static boolean isDigit(int sign) {
        return sign >= '0' && sign <= '9';
    }

    private static boolean isBlank(int sign) {
        return sign == 32 || sign == 10;
    }

    private static boolean isSign(int sign) {
        return ";()<>=+-*/%".indexOf(sign) >= 0;
    }

    // ---- promise 1

    private static void newObjectIsAnEmptyLane() {
        promise(1);
        TuneApproval x = new TuneApproval();
        due("lane()", x.lane(), 0);
        alike("lane() of nothing", x, new TuneApproval());
        due("approval", new TuneApproval().about(2), 1);
        due("approval", told("approval 1;").about(2), 1);
    }

    // ---- promise 2

    private static TuneApproval tapeOf(int bytes) {
        TuneApproval x = new TuneApproval();
        for (int i = 0; i < bytes; i += 20) {
            x.feed(0x20202020, 0x20202020, 0x20202020, 0x20202020, 0x20202020);
        }
        due("end", x.end(bytes), bytes);
        return x;
    }

    private static void tapeIsFull() {
        promise(2);
        due("feed, 0 there", tapeOf(0).feed(0, 0, 0, 0, 0), 20);
        due("feed, 1579 there", tapeOf(1579).feed(0, 0, 0, 0, 0), 1599);
        due("feed, 1580 there", tapeOf(1580).feed(0, 0, 0, 0, 0), 1600);
        for (int there : new int[] {1581, 1582, 1599, 1600}) {
            doesNothing("feed, " + there + " there", () -> tapeOf(there), x -> x.feed(-1, -1, -1, -1, -1), NONE);
        }
    }

    private static void highestByteIsFirst() {
        promise(2);
        // each of the twenty bytes in its turn is the one that is no TOKEN
        for (int place = 0; place < 20; place++) {
            int[] five = {0x20202020, 0x20202020, 0x20202020, 0x20202020, 0x20202020};
            five[place / 4] ^= 0xff << 24 - place % 4 * 8;
            TuneApproval x = new TuneApproval();
            x.feed(five[0], five[1], five[2], five[3], five[4]);
            due("lane()", x.lane(), NONE);
            due("fault(0)", x.fault(0), 1);
            due("fault(1)", x.fault(1), place);
        }
    }

    private static void bytesComeBehindThoseThere() {
        promise(2);
        TuneApproval x = new TuneApproval();
        put(x, "hums 10");
        put(x, "0;");
        due("lane()", x.lane(), 0);
        due("about(14)", x.about(14), 100);
        put(x, "hums 3;");
        due("about(11)", x.about(11), 7);
    }

    // ---- promise 3

    private static void ends() {
        promise(3);
        due("end(0) of none", new TuneApproval().end(0), 0);
        due("end(1600)", tapeOf(1600).end(1600), 1600);
        due("end(19)", tapeOf(20).end(19), 19);
        due("end(20)", tapeOf(20).end(20), 20);
        due("end(0)", tapeOf(20).end(0), 0);
        for (int n : new int[] {-1, 21, 1600, MIN, MAX}) {
            doesNothing("end(" + n + ")", () -> tapeOf(20), x -> x.end(n), NONE);
        }
        doesNothing("end(1601)", () -> tapeOf(1600), x -> x.end(1601), NONE);
        doesNothing("end(1) of none", TuneApproval::new, x -> x.end(1), NONE);
        // what was cut off is gone: what is fed then stands in its place
        TuneApproval y = new TuneApproval();
        put(y, "hums 35;");
        y.end(6);
        put(y, "0;");
        due("lane()", y.lane(), 0);
        due("about(14)", y.about(14), 30);
    }

    // ---- promise 4

    /** Something of all that a lane() can sweep away. */
    private static TuneApproval busy() {
        TuneApproval x = told(LANE);
        x.later(5);
        x.known(0, 1, true);
        x.bring(1, 2);
        x.week();
        x.bring(0, 0);
        x.week();
        x.image(1);
        x.fill(1, 5);
        x.undo();
        x.walk(0);
        return x;
    }

    private static void laneSweeps() {
        promise(4);
        TuneApproval x = busy();
        put(x, "hums 9;" + TUNE_A + HOUSE_A);
        due("lane()", x.lane(), 1);
        TuneApproval y = told("hums 9;" + TUNE_A + HOUSE_A);
        y.later(5);
        alike("lane()", x, y);
        TuneApproval z = busy();
        due("lane() of nothing", z.lane(), 0);
        TuneApproval w = new TuneApproval();
        w.later(5);
        alike("lane() of nothing", z, w);
        // the same lane told once more is as it was at first: what was worn is new
        TuneApproval v = busy();
        due("worn", v.tune(1, 2), 1);
        put(v, LANE);
        due("lane()", v.lane(), 3);
        TuneApproval u = told(LANE);
        u.later(5);
        alike("lane() once more", v, u);
    }

    /** Told one lane behind another; the third comes where the first was. */
    private static void eachLaneBeginsAnew() {
        promise(4);
        String all = "approval 9;hums 100;draw 999;glad not not not(7+7)*2;" + FIVE_TUNES + FOUR_HOUSES;
        TuneApproval x = told(all);
        for (int n = 0; n < 3; n++) {
            put(x, TUNE_A + HOUSE_A);
            due("lane()", x.lane(), 1);
            due("tunes", x.about(1), 1);
            due("approval", x.about(2), 1);
            due("seed", x.about(6), 0);
            due("hums", x.about(14), 0);
            due("units", x.about(12), 0);
            due("glad(0, 0)", x.glad(0, 0), 6);
            due("rows(0)", x.rows(0), 343);
        }
        // a longer formula leaves nothing to a shorter one
        TuneApproval y = told("glad not not not not 7;" + TUNE_A + HOUSE_A);
        for (int n = 0; n < 3; n++) {
            put(y, "glad 7;" + TUNE_A + HOUSE_A);
            due("lane()", y.lane(), 1);
            due("units", y.about(12), 1);
            due("glad(0, 0)", y.glad(0, 0), 7);
        }
        // what was known of one lane's tunes is not known of the next one's
        TuneApproval z = told("tune a price 0 notes 1 1 1;" + HOUSE_A);
        for (int note = 1; note < 4; note++) {
            due("known", z.known(0, 6, true), 0);
            due("rows(0)", z.rows(0), 1);
            due("sure(0, 0)", z.sure(0, 0), note);
            put(z, "tune a price 0 notes" + (" " + (note + 1)).repeat(3) + ";" + HOUSE_A);
            due("lane()", z.lane(), 1);
        }
    }

    private static void oneFaultBehindAnother() {
        promise(5);
        TuneApproval x = new TuneApproval();
        for (int blanks = 0; blanks < 5; blanks++) {
            x.end(0);
            put(x, " ".repeat(blanks) + "at");
            due("lane()", x.lane(), NONE);
            due("fault(0)", x.fault(0), 2);
            due("fault(1)", x.fault(1), blanks);
            x.end(0);
            put(x, " ".repeat(blanks) + "hums  101;");
            due("lane()", x.lane(), NONE);
            due("fault(0)", x.fault(0), 4);
            due("fault(1)", x.fault(1), blanks + 6);
        }
    }

    private static TuneApproval busyBefore(String text) {
        TuneApproval x = busy();
        put(x, text);
        return x;
    }

    private static void faultyLaneDoesNothing() {
        promise(4);
        String[] faulty = {"?", ";", TUNE_A + "tune a", "hums 101;", "glad 1", FIVE_TUNES + FOUR_HOUSES + "draw 9;draw 9;"};
        for (String text : faulty) {
            // one more lane() tells the other one's fault, too
            doesNothing("lane of " + text, () -> {
                TuneApproval x = busyBefore(text);
                x.lane();
                return x;
            }, TuneApproval::lane, NONE);
            TuneApproval x = busyBefore(text);
            due("lane of " + text, x.lane(), NONE);
            TuneApproval y = busyBefore(text);
            due("tape", x.about(11), y.about(11));
            due("week", x.week(), y.week());
            due("seed", x.about(6), y.about(6));
            due("restore(1)", x.restore(1), y.restore(1));
            due("known", x.about(9), y.about(9));
            due("lies(0)", x.lies(0), y.lies(0));
        }
        // the first lane is the one of old
        TuneApproval x = new TuneApproval();
        put(x, "approval 9;hums 101;");
        due("lane()", x.lane(), NONE);
        due("about(2)", x.about(2), 1);
        due("about(11)", x.about(11), 20);
    }

    private static void howManyHouses() {
        promise(4);
        for (int houses = 0; houses <= 4; houses++) {
            fine(FOUR_HOUSES.substring(0, 33 * houses), houses);
        }
    }

    private static void laneAtItsLongest() {
        promise(4);
        TuneApproval x = told(" ".repeat(1591) + "hums 100;");
        due("about(14)", x.about(14), 100);
        faulty(" ".repeat(1592) + "hums 100", 2, 1600);
        faulty(" ".repeat(1599) + "?", 1, 1599);
        faulty(" ".repeat(1599) + "3", 2, 1599);
        // as many TOKENS as there can be
        faulty(";1".repeat(800), 2, 0);
        faulty("1;".repeat(800), 2, 0);
        faulty(";a".repeat(800), 2, 0);
        faulty("a;".repeat(800), 2, 0);
        faulty("glad" + "(".repeat(1596), 2, 11);
        faulty("glad 1" + "+1".repeat(797), 2, 65);
    }

    private static void defaults() {
        promise(4);
        TuneApproval x = told("tune a price 1 notes 1 2 3 1;house a at 0 purse 1 likes 1 2 3;");
        due("approval", x.about(2), 1);
        due("seed", x.about(6), 0);
        due("hums", x.about(14), 0);
        due("units", x.about(12), 0);
        due("glad(0, 0)", x.glad(0, 0), 7);
        due("draw", told("draw 999;").about(6), 999);
        due("hums", told("hums 100;").about(14), 100);
        due("approval", told("approval 9;").about(2), 9);
        due("units", told("glad 7;").about(12), 1);
        // what one lane told is not told to the next
        TuneApproval y = told("approval 9;hums 100;draw 999;glad 7;" + TUNE_A + HOUSE_A);
        put(y, TUNE_A + HOUSE_A);
        due("lane()", y.lane(), 1);
        due("approval", y.about(2), 1);
        due("seed", y.about(6), 0);
        due("hums", y.about(14), 0);
        due("units", y.about(12), 0);
        due("glad(0, 0)", y.glad(0, 0), 6);
    }

    // ---- promise 5: no TOKEN

    private static void everyByteAlone() {
        promise(5);
        for (int sign = 0; sign < 256; sign++) {
            String text = String.valueOf((char) sign);
            if (isBlank(sign)) {
                fine(text, 0);
            } else {
                boolean isToken = isLetter(sign) || isDigit(sign) || isSign(sign);
                faulty(text, isToken ? 2 : 1, 0);
            }
        }
    }

    private static void everyByteBehindAWord() {
        promise(5);
        for (int sign = 0; sign < 256; sign++) {
            String text = "hums" + (char) sign + "7;";
            if (isBlank(sign) || isDigit(sign)) {
                fine(text, 0);
            } else if (isLetter(sign)) {
                faulty(text, 2, 0);
            } else {
                faulty(text, isSign(sign) ? 2 : 1, 4);
            }
        }
    }

    private static void everyByteBehindANumber() {
        promise(5);
        for (int sign = 0; sign < 256; sign++) {
            String text = "hums 7" + (char) sign + ";";
            if (isBlank(sign) || isDigit(sign)) {
                fine(text, 0);
            } else if (isLetter(sign)) {
                faulty(text, 1, 5);
            } else {
                boolean second = sign == ';';
                faulty(text, isSign(sign) ? 2 : 1, second ? 7 : 6);
            }
        }
    }

    private static void longWordsAndNumbers() {
        promise(5);
        fine("tune abcdefgh price 0 notes 0 0 0;", 0);
        faulty("tune abcdefghi price 0 notes 0 0 0;", 1, 5);
        fine("house zzzzzzzz at 0 purse 0 likes 0 0 0;", 1);
        faulty("house zzzzzzzzz at 0 purse 0 likes 0 0 0;", 1, 6);
        faulty("approvals 1;", 1, 0);
        faulty("abcdefgh", 2, 0);
        faulty("abcdefghi", 1, 0);
        faulty("tune a priceprice 1", 1, 7);
        fine("glad 9999;", 0);
        faulty("glad 10000;", 1, 5);
        fine("hums 0100;", 0);
        faulty("hums 00100;", 1, 5);
        fine("tune a price 0099 notes 0000 0006 0003;", 0);
        // names of eight letters that differ in the last one or in length alone are two
        fine("tune abcdefgh price 0 notes 0 0 0;tune abcdefgi price 0 notes 0 0 0;tune abcdefg price 0 notes 0 0 0;", 0);
        faulty("tune abcdefgh price 0 notes 0 0 0;tune abcdefgh", 3, 39);
    }

    private static void blanksPartThemOrNot() {
        promise(5);
        fine("approval1;tune a price0 notes0 1 2;house a at0 purse0 likes0 1 2;glad(same+1)*2<3;hums1;draw1;", 1);
        fine("\napproval\n1\n;\n", 0);
        fine("  approval  1  ;  ", 0);
        // a word and an N need none between them, an N and a word do
        faulty("tune a1price 0 notes 0 0 0;", 1, 6);
        faulty("tune a 1 price 0 notes 0 0 0;", 2, 7);
        faulty("tune a price 0notes 0 0 0;", 1, 13);
        faulty("tune a price 0 notes 012;", 4, 21);
        faulty("glad sameand 1;", 2, 5);
        faulty("glad 1and 1;", 1, 5);
        fine("glad 1 and 1;", 0);
        fine("glad(1)and(1);", 0);
        fine("glad not(1)or not 1;", 0);
        faulty("glad(1)andnot 1;", 2, 7);
    }

    // ---- promise 5: what can't stand there

    private static void linesCutShort() {
        promise(5);
        for (String line : LINES) {
            fine(line, line.startsWith("house") ? 1 : 0);
            String[] tokens = line.split(" ");
            StringBuilder cut = new StringBuilder();
            for (int i = 0; i < tokens.length - 1; i++) {
                cut.append(tokens[i]);
                faulty(cut.toString(), 2, cut.length());
                cut.append(' ');
                faulty(cut.toString(), 2, cut.length());
            }
        }
    }

    private static void otherTokensInEveryPlace() {
        promise(5);
        for (String line : LINES) {
            int place = 0;
            for (String token : line.split(" ")) {
                String before = line.substring(0, place);
                String behind = line.substring(place + token.length());
                faulty(before + "?" + behind, 1, place);
                faulty(before + "abcdefghi" + behind, 1, place);
                faulty(before + "12345" + behind, 1, place);
                faulty(before + "1a" + behind, 1, place);
                if (!token.equals("at")) {
                    faulty(before + "at" + behind, 2, place);
                }
                place += token.length() + 1;
            }
        }
    }

    private static void wordsThatBeginLines() {
        promise(5);
        for (String word : OWN_WORDS) {
            boolean begins = "approval tune house glad hums draw".contains(word) && !word.equals("at");
            faulty(word, 2, begins ? word.length() : 0);
        }
    }

    private static void wordsThatAreNoNames() {
        promise(5);
        for (String word : OWN_WORDS) {
            faulty("tune " + word + " price 0 notes 0 0 0;", 2, 5);
            faulty("house " + word + " at 0 purse 0 likes 0 0 0;", 2, 6);
            if (word.length() < 8) {
                fine("tune " + word + "x price 0 notes 0 0 0;house x" + word + " at 0 purse 0 likes 0 0 0;", 1);
            }
            String shorter = word.substring(1);
            fine("tune " + shorter + " price 0 notes 0 0 0;", 0);
        }
    }

    private static void wordsThatAreUnits() {
        promise(5);
        for (String word : OWN_WORDS) {
            boolean isUnit = "same turn long worn weeks price purse".contains(word) && !word.equals("or");
            if (isUnit) {
                fine("glad " + word + ";", 0);
            } else {
                faulty("glad " + word + ";", 2, word.equals("not") ? 8 : 5);
            }
        }
    }

    private static void oneOfASortTooMany() {
        promise(5);
        fine(FIVE_TUNES + FOUR_HOUSES, 4);
        fine(FOUR_HOUSES + FIVE_TUNES, 4);
        faulty(FIVE_TUNES + "tune f price 0 notes 0 0 0;", 2, 135);
        faulty(FIVE_TUNES + "tune ?", 2, 135);
        faulty(FIVE_TUNES + "tune a", 2, 135);
        faulty(FIVE_TUNES + FOUR_HOUSES + "tune f", 2, 267);
        faulty(FOUR_HOUSES + "house e at 0 purse 0 likes 0 0 0;", 2, 132);
        faulty(FOUR_HOUSES + "house ?", 2, 132);
        faulty(FOUR_HOUSES + "house a", 2, 132);
        String once = "approval 1;glad 1;hums 1;draw 1;";
        fine(once, 0);
        for (String second : new String[] {"approval 2;", "glad 2;", "hums 2;", "draw 2;", "hums 101;", "draw ?", "glad", "approval"}) {
            faulty(once + second, 2, 32);
            faulty(once + " \n" + second, 2, 34);
        }
        // a second one like the first is one too many, too, and so is one of the value that is not told
        faulty("hums 0;hums 0;", 2, 7);
        faulty("draw 0;draw 0;", 2, 7);
        faulty("approval 1;approval 1;", 2, 11);
    }

    private static void howManyNotes() {
        promise(5);
        String notes = "tune a price 0 notes 0 1 2 3 4 5 6 0";
        for (int count = 3; count <= 8; count++) {
            TuneApproval x = told(notes.substring(0, 20 + 2 * count) + ";");
            due("tune(0, 1)", x.tune(0, 1), count);
        }
        faulty("tune a price 0 notes;", 2, 20);
        faulty("tune a price 0 notes 0;", 2, 22);
        faulty("tune a price 0 notes 0 1;", 2, 24);
        faulty(notes + " 1;", 2, 37);
        faulty(notes + " 7;", 2, 37);
        faulty(notes + " 12345;", 1, 37);
        faulty(notes + " ;;", 2, 38);
        faulty("house a at 0 purse 0 likes;", 2, 26);
        faulty("house a at 0 purse 0 likes 0;", 2, 28);
        faulty("house a at 0 purse 0 likes 0 0;", 2, 30);
        fine("house a at 0 purse 0 likes 0 0 0;", 1);
        faulty("house a at 0 purse 0 likes 0 0 0 0;", 2, 33);
        faulty("house a at 0 purse 0 likes 0 0 0 7;", 2, 33);
    }

    // ---- promise 5: units, and what is within others

    private static String sumOf(int units) {
        return "glad 1" + "+1".repeat(units - 1);
    }

    private static void howManyUnits() {
        promise(5);
        for (int units : new int[] {1, 29, 30}) {
            due("units", told(sumOf(units) + ";").about(12), units);
        }
        faulty(sumOf(31) + ";", 2, 65);
        faulty(sumOf(32) + ";", 2, 65);
        faulty(sumOf(30) + "+same;", 2, 65);
        faulty(sumOf(30) + "+(same);", 2, 65);
        faulty(sumOf(30) + "+12345;", 1, 65);
        faulty(sumOf(30) + " and not 1;", 2, 73);
        // a unit ( e ) is one, and so is each within it
        due("units", told(sumOf(28) + "+(1);").about(12), 30);
        faulty(sumOf(29) + "+(1);", 2, 64);
        due("units", told("glad (" + "1+".repeat(28) + "1);").about(12), 30);
        faulty("glad (" + "1+".repeat(29) + "1);", 2, 64);
        due("units", told("glad ((same));").about(12), 3);
        due("units", told("glad not not 1 and 2<3;").about(12), 3);
        // all thirty are reckoned with
        due("glad(0, 0)", told(sumOf(30) + ";" + TUNE_A + HOUSE_A).glad(0, 0), 30);
        due("glad(0, 0)", told("glad " + "1+(".repeat(7) + "1+1" + ")".repeat(7) + ";" + TUNE_A + HOUSE_A).glad(0, 0), 9);
    }

    private static void withinOthers() {
        promise(5);
        for (int deep = 1; deep <= 7; deep++) {
            fine("glad " + "(".repeat(deep) + "1" + ")".repeat(deep) + ";", 0);
            fine("glad " + "not ".repeat(deep) + "1;", 0);
        }
        faulty("glad " + "(".repeat(8) + "1" + ")".repeat(8) + ";", 2, 12);
        faulty("glad " + "(".repeat(9) + "1" + ")".repeat(9) + ";", 2, 12);
        faulty("glad " + "not ".repeat(8) + "1;", 2, 33);
        faulty("glad " + "not ".repeat(9) + "1;", 2, 33);
        // both sorts count together
        fine("glad " + "not(".repeat(3) + "not 1" + ")".repeat(3) + ";", 0);
        fine("glad " + "not(".repeat(3) + "(1)" + ")".repeat(3) + ";", 0);
        faulty("glad " + "not(".repeat(4) + "1" + ")".repeat(4) + ";", 2, 20);
        faulty("glad " + "(not ".repeat(3) + "(not 1" + ")".repeat(4) + ";", 2, 21);
        // what is beside is not around
        fine("glad " + "(".repeat(7) + "1" + ")".repeat(7) + "+" + "(".repeat(7) + "1" + ")".repeat(7) + ";", 0);
        fine("glad " + "not ".repeat(7) + "1 and " + "not ".repeat(7) + "1;", 0);
        fine("glad (" + "not ".repeat(6) + "1 or (((((1))))));", 0);
        faulty("glad (" + "not ".repeat(7) + "1);", 2, 30);
        // at the eighth of both sorts the text may be no TOKEN
        faulty("glad " + "(".repeat(7) + "?", 1, 12);
        faulty("glad " + "not ".repeat(7) + "?", 1, 33);
        // seven times not before every one of fifteen units
        String sevenNots = "not not not not not not not ";
        TuneApproval x = told("glad " + (sevenNots + "0 and ").repeat(14) + sevenNots + "0;" + TUNE_A + HOUSE_A);
        due("glad(0, 0)", x.glad(0, 0), 1);
    }

    private static void thirtyUnitsBehindNots() {
        promise(5);
        // the longest formula that there is: every unit but the last one comes to 0 by its seven nots
        String nots = "not ".repeat(7);
        StringBuilder text = new StringBuilder("glad ");
        for (int i = 0; i < 30; i++) {
            text.append(i == 0 ? "" : " or ").append(nots).append(i == 29 ? "0" : "1");
        }
        text.append(';').append(TUNE_A).append(HOUSE_A);
        TuneApproval x = told(text.toString());
        due("units", x.about(12), 30);
        due("glad(0, 0)", x.glad(0, 0), 1);
        due("glad(0, 0)", told(text.toString().replace(" 1 or", " 2 or").replace(" 0;", " 3;")).glad(0, 0), 0);
    }

    private static void whatBeginsAUnit() {
        promise(5);
        for (String sign : new String[] {";", ")", "<", ">", "=", "+", "-", "*", "/", "%", "or", "and", "a", "at"}) {
            faulty("glad " + sign, 2, 5);
            faulty("glad 1+" + sign, 2, 7);
            faulty("glad (" + sign, 2, 6);
            faulty("glad not " + sign, 2, 9);
            faulty("glad 1<" + sign, 2, 7);
        }
        for (String sign : new String[] {"<", ">", "=", "+", "-", "*", "/", "%"}) {
            fine("glad 1" + sign + "2;", 0);
            faulty("glad 1" + sign + "not 2;", 2, 7);
            faulty("glad 1" + sign + ";", 2, 7);
        }
        fine("glad 1 or not 2 and not 3;", 0);
        // one relation at most
        for (String first : new String[] {"<", ">", "="}) {
            for (String second : new String[] {"<", ">", "="}) {
                faulty("glad 1" + first + "2" + second + "3;", 2, 8);
                fine("glad (1" + first + "2)" + second + "3;", 0);
            }
        }
        faulty("glad 1 2;", 2, 7);
        faulty("glad (1)(2);", 2, 8);
        faulty("glad 1 same;", 2, 7);
        faulty("glad (1));", 2, 8);
        faulty("glad ((1);", 2, 9);
    }

    // ---- promise 5: a NAME told already, a number that can't be

    private static void namesToldAlready() {
        promise(5);
        for (int i = 0; i < 4; i++) {
            String four = FIVE_TUNES.substring(0, 108);
            faulty(four + "tune " + (char) ('a' + i) + " price 0 notes 0 0 0;", 3, 113);
        }
        for (int i = 0; i < 3; i++) {
            String three = FOUR_HOUSES.substring(0, 99);
            faulty(three + "house " + (char) ('a' + i) + " at 0 purse 0 likes 0 0 0;", 3, 105);
        }
        fine(FIVE_TUNES + FOUR_HOUSES, 4);
        fine(TUNE_A + HOUSE_A, 1);
        fine(HOUSE_A + TUNE_A, 1);
        // names that are alike and not the same
        differ("ab", "ba");
        differ("a", "aa");
        differ("a", "ba");
        differ("b", "ab");
        differ("z", "aa");
        differ("az", "ba");
        differ("b", "bb");
        differ("zzzzzzzz", "zzzzzzz");
        differ("zzzzzzzz", "zzzzzzzy");
        differ("azzzzzzz", "baaaaaaa");
        // a name of the lane before is not told already
        TuneApproval x = told(TUNE_A + HOUSE_A);
        put(x, TUNE_A + HOUSE_A);
        due("lane()", x.lane(), 1);
        // nor one of a lane that was faulty
        put(x, TUNE_A + HOUSE_A + "?");
        due("lane()", x.lane(), NONE);
        x.end(0);
        put(x, TUNE_A + HOUSE_A);
        due("lane()", x.lane(), 1);
    }

    private static void differ(String name, String other) {
        fine("tune " + name + " price 0 notes 0 0 0;tune " + other + " price 0 notes 0 0 0;", 0);
        fine("house " + name + " at 0 purse 0 likes 0 0 0;house " + other + " at 0 purse 0 likes 0 0 0;", 2);
        String twice = "tune " + name + " price 0 notes 0 0 0;tune ";
        faulty(twice + name + " price 0 notes 0 0 0;", 3, twice.length());
    }

    private static void numberIn(String before, int least, int most, String behind) {
        int houses = before.startsWith("house") ? 1 : 0;
        for (int n : new int[] {least, least + 1, most - 1, most}) {
            fine(before + n + behind, houses);
            fine(before + String.format("%04d", n) + behind, houses);
        }
        for (int n : new int[] {least - 1, most + 1, most + 2, 9999}) {
            if (n >= 0 && n <= 9999 && (n < least || n > most)) {
                faulty(before + n + behind, 4, before.length());
                faulty(before + n, 4, before.length());
                faulty(before + n + " ?", 4, before.length());
            }
        }
        faulty(before + "10000" + behind, 1, before.length());
        faulty(before + "x" + behind, 2, before.length());
        faulty(before + "-1" + behind, 2, before.length());
    }

    private static void numbersThatCantBe() {
        promise(5);
        numberIn("approval ", 1, 9, ";");
        numberIn("hums ", 0, 100, ";");
        numberIn("draw ", 0, 999, ";");
        numberIn("tune a price ", 0, 99, " notes 0 0 0;");
        for (int i = 0; i < 8; i++) {
            numberIn("tune a price 0 notes " + "0 ".repeat(i), 0, 6, " 0".repeat(7 - i) + ";");
        }
        numberIn("tune a price 0 notes 0 0 ", 0, 6, ";");
        numberIn("house a at ", 0, 99, " purse 0 likes 0 0 0;");
        numberIn("house a at 0 purse ", 0, 99, " likes 0 0 0;");
        for (int i = 0; i < 3; i++) {
            numberIn("house a at 0 purse 0 likes " + "0 ".repeat(i), 0, 6, " 0".repeat(2 - i) + ";");
        }
        fine("glad 0000;", 0);
        fine("glad 9999;", 0);
    }

    // ---- promise 5: the first fault, the least at one place, and what fault() answers

    private static void theFirstByItsPlace() {
        promise(5);
        faulty("hums 101;?", 4, 5);
        faulty("hums ?101;", 1, 5);
        faulty("tune a price 100 notes 7 8 9;", 4, 13);
        faulty(TUNE_A + "tune a price 100 ?", 3, 32);
        faulty("price ? 100", 2, 0);
        // one that can't stand there and can't be: the least
        faulty("hums 3 9999;", 2, 7);
        faulty("9999", 2, 0);
        faulty("tune 9999", 2, 5);
        faulty("tune a 9999", 2, 7);
        faulty(TUNE_A + "tune b a", 2, 34);
        faulty(TUNE_A + "a", 2, 27);
    }

    private static void whatFaultAnswers() {
        promise(5);
        TuneApproval x = new TuneApproval();
        for (int what : new int[] {-1, 2, MIN, MAX}) {
            due("fault(" + what + ")", x.fault(what), NONE);
        }
        put(x, "hums 101;");
        due("fault(0), not yet asked", x.fault(0), 0);
        x.lane();
        for (int what : new int[] {-1, 2, MIN, MAX}) {
            due("fault(" + what + ")", x.fault(what), NONE);
        }
        // it stays till the next lane()
        x.end(0);
        x.week();
        x.undo();
        put(x, "hums 9;");
        due("fault(0)", x.fault(0), 4);
        due("fault(1)", x.fault(1), 5);
        x.lane();
        due("fault(0)", x.fault(0), 0);
        due("fault(1)", x.fault(1), NONE);
    }

    private static void numberedAsTold() {
        promise(4);
        TuneApproval x = told("house p at 1 purse 11 likes 0 0 0;tune q price 21 notes 0 0 0;house r at 2 purse 12 likes 0 0 0;"
                + "tune p price 22 notes 0 0 0;house q at 1 purse 13 likes 0 0 0;");
        for (int house = 0; house < 3; house++) {
            due("house(" + house + ", 1)", x.house(house, 1), 11 + house);
        }
        due("house(2, 0)", x.house(2, 0), 1);
        due("tune(0, 0)", x.tune(0, 0), 21);
        due("tune(1, 0)", x.tune(1, 0), 22);
    }

    public static void main(String[] args) {
        newObjectIsAnEmptyLane();
        tapeIsFull();
        highestByteIsFirst();
        bytesComeBehindThoseThere();
        ends();
        laneSweeps();
        faultyLaneDoesNothing();
        eachLaneBeginsAnew();
        howManyHouses();
        laneAtItsLongest();
        defaults();
        numberedAsTold();
        everyByteAlone();
        everyByteBehindAWord();
        everyByteBehindANumber();
        longWordsAndNumbers();
        blanksPartThemOrNot();
        linesCutShort();
        otherTokensInEveryPlace();
        wordsThatBeginLines();
        wordsThatAreNoNames();
        wordsThatAreUnits();
        oneOfASortTooMany();
        howManyNotes();
        howManyUnits();
        withinOthers();
        thirtyUnitsBehindNots();
        whatBeginsAUnit();
        namesToldAlready();
        numbersThatCantBe();
        theFirstByItsPlace();
        whatFaultAnswers();
        oneFaultBehindAnother();
        report("TextEdgesTest");
    }
}
