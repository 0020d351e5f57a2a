import java.nio.charset.StandardCharsets;
import java.util.ArrayList;
import java.util.List;
import java.util.function.Function;
import java.util.function.Supplier;
import java.util.function.ToLongFunction;

/** What the tests with answers worked out by hand have in common. */
abstract class Checks {
    static final int NONE = TuneApproval.NONE;
    static final int NO_GLAD = -1000000000;
    static final int MIN = Integer.MIN_VALUE;
    static final int MAX = Integer.MAX_VALUE;
    // Tunes: 0 aria, 1 jig, 2 hymn; houses: 0 low, 1 mid, 2 top.
    static final String LANE = "approval 2;tune aria price 10 notes 1 2 3 4 5;tune jig price 4 notes 3 3 1;"
            + "tune hymn price 7 notes 0 1 2 3;house low at 5 purse 12 likes 1 2 3;house mid at 2 purse 9 likes 3 3 1;"
            + "house top at 9 purse 3 likes 6 6 0;draw 7;";
    static final String TUNE_A = "tune a price 1 notes 1 2 3;";
    static final String HOUSE_A = "house a at 1 purse 9 likes 1 2 3;";
    private static final int FREE_CALLS = 512;
    private static int wrong = 0;
    private static int promise = 0;

    static void promise(int number) {
        promise = number;
    }

    static void due(String call, long got, long want) {
        if (got != want) {
            wrong++;
            System.out.println("promise " + promise + ": " + call + " answered " + got + ", due is " + want);
        }
    }

    static void due(String call, boolean got, boolean want) {
        due(call, got ? 1 : 0, want ? 1 : 0);
    }

    static void report(String test) {
        System.out.println(test + ": " + wrong + " wrong");
        if (wrong != 0) {
            System.exit(1);
        }
    }

    static void put(TuneApproval x, String text) {
        byte[] bytes = text.getBytes(StandardCharsets.ISO_8859_1);
        int before = x.about(11);
        for (int at = 0; at < bytes.length; at += 20) {
            int[] five = new int[5];
            for (int i = 0; i < 20; i++) {
                int sign = at + i < bytes.length ? bytes[at + i] & 255 : 32;
                five[i / 4] = five[i / 4] << 8 | sign;
            }
            due("feed", x.feed(five[0], five[1], five[2], five[3], five[4]), before + at + 20);
        }
        due("end", x.end(before + bytes.length), before + bytes.length);
    }

    static TuneApproval told(String text) {
        TuneApproval x = new TuneApproval();
        put(x, text);
        due("lane of " + text, x.lane() == NONE, false);
        return x;
    }

    static void faulty(String text, int fault, int place) {
        TuneApproval x = new TuneApproval();
        put(x, text);
        due("lane of " + text, x.lane(), NONE);
        due("fault(0) of " + text, x.fault(0), fault);
        due("fault(1) of " + text, x.fault(1), place);
    }

    static void fine(String text, int houses) {
        TuneApproval x = new TuneApproval();
        put(x, text);
        due("lane of " + text, x.lane(), houses);
        due("fault(0) of " + text, x.fault(0), 0);
        due("fault(1) of " + text, x.fault(1), NONE);
    }

    /** The numbers that lie there, joined; a last one that is not there shows as -2. */
    static void lie(TuneApproval x, int... want) {
        due("about(13)", x.about(13), want.length);
        for (int i = 0; i < want.length; i++) {
            due("lies(" + i + ")", x.lies(i), want[i]);
        }
        due("lies(" + want.length + ")", x.lies(want.length), -2);
    }

    // ---- doing nothing: one object that was called and one that was not answer alike in all behind it

    /** Makes the scene twice, calls on one of them, and compares all that can be seen of both. */
    static void doesNothing(String name, Supplier<TuneApproval> scene, ToLongFunction<TuneApproval> call, long answer) {
        TuneApproval called = scene.get();
        due(name, call.applyAsLong(called), answer);
        alike(name, called, scene.get());
    }

    static void alike(String name, TuneApproval x, TuneApproval y) {
        List<String> seen = picture(x);
        List<String> due = picture(y);
        for (int i = 0; i < due.size(); i++) {
            boolean same = seen.get(i).equals(due.get(i));
            due("behind " + name + ", " + seen.get(i) + " for " + due.get(i) + ": alike", same, true);
        }
    }

    /** All that can be seen of an object; less than 300 calls. It is spent behind this. */
    static List<String> picture(TuneApproval x) {
        List<String> all = new ArrayList<>();
        see(all, "about", 15, x::about);
        see(all, "lies", 6, x::lies);
        see(all, "fault", 2, x::fault);
        for (int tune = 0; tune < 5; tune++) {
            int t = tune;
            see(all, "note of " + t, 8, i -> x.note(t, i));
            see(all, "glad of " + t, 4, house -> x.glad(house, t));
        }
        seeStanding(all, "now", x);
        see(all, "rows", 4, x::rows);
        see(all, "undo", 1, i -> x.undo());
        seeStanding(all, "undone", x);
        see(all, "redo", 2, i -> x.redo());
        seeStanding(all, "redone", x);
        for (int box = 0; box < 3; box++) {
            int b = box;
            see(all, "restore", 1, i -> x.restore(b));
            see(all, "week in it", 1, i -> x.about(5));
        }
        see(all, "untell", 4, x::untell);
        see(all, "lane", 1, i -> x.lane());
        see(all, "fault behind lane", 2, x::fault);
        see(all, "about behind lane", 3, x::about);
        return all;
    }

    private static void seeStanding(List<String> all, String when, TuneApproval x) {
        for (int tune = 0; tune < 5; tune++) {
            int t = tune;
            see(all, when + " tune " + t, 6, what -> x.tune(t, what));
        }
        see(all, when + " purse", 4, house -> x.house(house, 1));
        see(all, when + " week and seed", 2, i -> x.about(5 + i));
    }

    private static void see(List<String> all, String name, int count, Function<Integer, Object> call) {
        for (int i = 0; i < count; i++) {
            all.add(name + "(" + i + ")=" + call.apply(i));
        }
        if (all.size() > FREE_CALLS / 2) {
            throw new IllegalStateException("a picture takes too many calls");
        }
    }
}
