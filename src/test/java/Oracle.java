import java.math.BigInteger;
import java.nio.charset.StandardCharsets;
import java.util.ArrayList;
import java.util.HashMap;
import java.util.LinkedHashMap;
import java.util.List;
import java.util.Map;
import java.util.Set;

/**
 * The document once more, written for plainness alone and apart from the class that it checks:
 * trees instead of steps, searches by trying all, whole states kept for each act.
 */
final class Oracle {
    static final int NO_GLAD = -1000000000;

    static final class Fault extends RuntimeException {
        private static final long serialVersionUID = 1L;
        final int kind;
        final int place;

        Fault(int kind, int place) {
            this.kind = kind;
            this.place = place;
        }
    }

    interface Node {
        int of(Map<String, Integer> facts);
    }

    record Token(String text, int place, char sort) {
    }

    static final class Tune {
        String name;
        int price;
        List<Integer> notes = new ArrayList<>();
    }

    static final class House {
        String name;
        int place;
        int purse;
        List<Integer> likes = new ArrayList<>();
    }

    static final class Plan {
        int approval = 1;
        int hums = 0;
        int draw = 0;
        int units = 0;
        Node glad = f -> f.get("same") + f.get("turn") * 3 - f.get("worn");
        List<Tune> tunes = new ArrayList<>();
        List<House> houses = new ArrayList<>();
    }

    /** Where a tune is: CART, or a house, on approval or paid for. */
    static final class State {
        int[] house = {-1, -1, -1, -1, -1};
        boolean[] bought = new boolean[5];
        int[] worn = new int[5];
        int[] weeks = new int[5];
        int[] purse = new int[4];
        int week;
        int seed;

        State copy() {
            State s = new State();
            s.house = house.clone();
            s.bought = bought.clone();
            s.worn = worn.clone();
            s.weeks = weeks.clone();
            s.purse = purse.clone();
            s.week = week;
            s.seed = seed;
            return s;
        }
    }

    record Known(int tune, int glad, boolean is, int told) {
    }

    // ---- the reading of a text

    static final Set<String> OWN = Set.of("approval", "tune", "price", "notes", "house", "at", "purse", "likes",
            "glad", "hums", "draw", "or", "and", "not", "same", "turn", "long", "worn", "weeks");
    static final Set<String> FACTS = Set.of("same", "turn", "long", "worn", "weeks", "price", "purse");

    static final class Parser {
        final String text;
        int at = 0;
        Token token;
        final Plan plan = new Plan();

        Parser(String text) {
            this.text = text;
            next();
        }

        void next() {
            while (at < text.length() && (text.charAt(at) == ' ' || text.charAt(at) == '\n')) {
                at++;
            }
            int from = at;
            if (at == text.length()) {
                token = new Token("", from, 'e');
                return;
            }
            String rest = text.substring(at);
            String word = rest.replaceFirst("(?s)[^a-z].*", "");
            String digits = rest.replaceFirst("(?s)[^0-9].*", "");
            if (!word.isEmpty()) {
                at += word.length();
                token = new Token(word, from, word.length() > 8 ? '!' : OWN.contains(word) ? 'w' : 'n');
            } else if (!digits.isEmpty()) {
                at += digits.length();
                boolean bad = digits.length() > 4 || rest.matches("(?s)[0-9]+[a-z].*");
                token = new Token(digits, from, bad ? '!' : 'd');
            } else {
                at++;
                String sign = rest.substring(0, 1);
                token = new Token(sign, from, ";()<>=+-*/%".contains(sign) ? 's' : '!');
            }
        }

        Fault cant() {
            return new Fault(token.sort == '!' ? 1 : 2, token.place);
        }

        boolean is(String text) {
            return (token.sort == 'w' || token.sort == 's') && token.text.equals(text);
        }

        void expect(String text) {
            if (!is(text)) {
                throw cant();
            }
            next();
        }

        int number(int least, int most) {
            if (token.sort != 'd') {
                throw cant();
            }
            int n = Integer.parseInt(token.text);
            if (n < least || n > most) {
                throw new Fault(4, token.place);
            }
            next();
            return n;
        }

        String name(List<String> others) {
            if (token.sort != 'n') {
                throw cant();
            }
            if (others.contains(token.text)) {
                throw new Fault(3, token.place);
            }
            String name = token.text;
            next();
            return name;
        }

        Plan all() {
            List<String> once = new ArrayList<>();
            while (token.sort != 'e') {
                String first = token.sort == 'w' ? token.text : "";
                if (!Set.of("approval", "tune", "house", "glad", "hums", "draw").contains(first)
                        || once.contains(first) || first.equals("tune") && plan.tunes.size() == 5
                        || first.equals("house") && plan.houses.size() == 4) {
                    throw cant();
                }
                next();
                if (first.equals("tune")) {
                    tune();
                } else if (first.equals("house")) {
                    house();
                } else {
                    once.add(first);
                    if (first.equals("approval")) {
                        plan.approval = number(1, 9);
                    } else if (first.equals("hums")) {
                        plan.hums = number(0, 100);
                    } else if (first.equals("draw")) {
                        plan.draw = number(0, 999);
                    } else {
                        plan.glad = or(0);
                    }
                }
                expect(";");
            }
            return plan;
        }

        void tune() {
            Tune t = new Tune();
            t.name = name(plan.tunes.stream().map(x -> x.name).toList());
            expect("price");
            t.price = number(0, 99);
            expect("notes");
            while (t.notes.size() < 3 || token.sort == 'd') {
                if (t.notes.size() == 8) {
                    throw cant();
                }
                t.notes.add(number(0, 6));
            }
            plan.tunes.add(t);
        }

        void house() {
            House h = new House();
            h.name = name(plan.houses.stream().map(x -> x.name).toList());
            expect("at");
            h.place = number(0, 99);
            expect("purse");
            h.purse = number(0, 99);
            expect("likes");
            for (int i = 0; i < 3; i++) {
                h.likes.add(number(0, 6));
            }
            plan.houses.add(h);
        }

        Node or(int deep) {
            Node left = and(deep);
            while (is("or")) {
                next();
                Node a = left;
                Node b = and(deep);
                left = f -> a.of(f) != 0 | b.of(f) != 0 ? 1 : 0;
            }
            return left;
        }

        Node and(int deep) {
            Node left = one(deep);
            while (is("and")) {
                next();
                Node a = left;
                Node b = one(deep);
                left = f -> a.of(f) != 0 & b.of(f) != 0 ? 1 : 0;
            }
            return left;
        }

        Node one(int deep) {
            if (is("not")) {
                if (deep > 6) {
                    throw cant();
                }
                next();
                Node a = one(deep + 1);
                return f -> a.of(f) == 0 ? 1 : 0;
            }
            Node a = sum(deep);
            for (String relation : List.of("<", ">", "=")) {
                if (is(relation)) {
                    next();
                    Node b = sum(deep);
                    return f -> (relation.equals("<") ? a.of(f) < b.of(f)
                            : relation.equals(">") ? a.of(f) > b.of(f) : a.of(f) == b.of(f)) ? 1 : 0;
                }
            }
            return a;
        }

        Node sum(int deep) {
            Node left = term(deep);
            while (is("+") || is("-")) {
                boolean plus = is("+");
                next();
                Node a = left;
                Node b = term(deep);
                left = f -> plus ? a.of(f) + b.of(f) : a.of(f) - b.of(f);
            }
            return left;
        }

        Node term(int deep) {
            Node left = unit(deep);
            while (is("*") || is("/") || is("%")) {
                String sign = token.text;
                next();
                Node a = left;
                Node b = unit(deep);
                left = f -> {
                    int x = a.of(f);
                    int y = b.of(f);
                    if (sign.equals("*")) {
                        return x * y;
                    }
                    return y == 0 ? 0 : sign.equals("/") ? x / y : x % y;
                };
            }
            return left;
        }

        Node unit(int deep) {
            boolean opens = is("(");
            boolean fact = token.sort == 'w' && FACTS.contains(token.text);
            if (!opens && !fact && token.sort != 'd' || plan.units == 30 || opens && deep > 6) {
                throw cant();
            }
            plan.units++;
            if (opens) {
                next();
                Node inner = or(deep + 1);
                expect(")");
                return inner;
            }
            String text = token.text;
            next();
            if (fact) {
                return f -> f.get(text);
            }
            int n = Integer.parseInt(text);
            return f -> n;
        }
    }

    // ---- the object

    byte[] tape = {};
    Plan plan = new Plan();
    State now = new State();
    List<State> past = new ArrayList<>();
    List<State> future = new ArrayList<>();
    State[] boxes = new State[3];
    List<Known> knowns = new ArrayList<>();
    Map<Integer, Integer> untold = new HashMap<>();
    List<Integer> lying = new ArrayList<>();
    int time = 0;
    int faultKind = 0;
    int faultPlace = -1;

    int tunes() {
        return plan.tunes.size();
    }

    int houses() {
        return plan.houses.size();
    }

    boolean tuneOk(int t) {
        return 0 <= t && t < tunes();
    }

    boolean houseOk(int h) {
        return 0 <= h && h < houses();
    }

    int feed(int a, int b, int c, int d, int e) {
        if (tape.length + 20 > 1600) {
            return -1;
        }
        int[] five = {a, b, c, d, e};
        byte[] more = new byte[tape.length + 20];
        System.arraycopy(tape, 0, more, 0, tape.length);
        for (int i = 0; i < 20; i++) {
            more[tape.length + i] = BigInteger.valueOf(five[i / 4]).shiftRight(24 - i % 4 * 8).byteValue();
        }
        tape = more;
        return tape.length;
    }

    int end(int n) {
        if (n < 0 || n > tape.length) {
            return -1;
        }
        tape = java.util.Arrays.copyOf(tape, n);
        return n;
    }

    int lane() {
        Plan read;
        try {
            read = new Parser(new String(tape, StandardCharsets.ISO_8859_1)).all();
        } catch (Fault f) {
            faultKind = f.kind;
            faultPlace = f.place;
            return -1;
        }
        faultKind = 0;
        faultPlace = -1;
        plan = read;
        tape = new byte[0];
        now = new State();
        for (int h = 0; h < houses(); h++) {
            now.purse[h] = plan.houses.get(h).purse;
        }
        now.seed = plan.draw;
        past.clear();
        future.clear();
        boxes = new State[3];
        knowns.clear();
        untold.clear();
        lying.clear();
        return houses();
    }

    int fault(int what) {
        return what == 0 ? faultKind : what == 1 ? faultPlace : -1;
    }

    List<Integer> left(State s, int t) {
        List<Integer> notes = plan.tunes.get(t).notes;
        int keep = Math.max(3, notes.size() - s.worn[t]);
        return notes.subList(notes.size() - keep, notes.size());
    }

    boolean approved(State s, int t) {
        return s.house[t] >= 0 && !s.bought[t];
    }

    int approvedIn(State s, int h) {
        for (int t = 0; t < tunes(); t++) {
            if (approved(s, t) && s.house[t] == h) {
                return t;
            }
        }
        return -1;
    }

    int gladness(List<Integer> notes, List<Integer> likes, int worn, int weeks, int price, int purse) {
        Map<String, Integer> facts = new LinkedHashMap<>();
        facts.put("same", (int) notes.stream().filter(likes::contains).count());
        facts.put("turn", java.util.Collections.indexOfSubList(notes, likes) >= 0 ? 1 : 0);
        facts.put("long", notes.size());
        facts.put("worn", worn);
        facts.put("weeks", weeks);
        facts.put("price", price);
        facts.put("purse", purse);
        int g = plan.glad.of(facts);
        return g < -9999 ? -9999 : g > 9999 ? 9999 : g;
    }

    int gladWith(State s, int h, int t, int weeks, int purse) {
        return gladness(left(s, t), plan.houses.get(h).likes, s.worn[t], weeks, plan.tunes.get(t).price, purse);
    }

    int gladIn(State s, int h, int t) {
        return gladWith(s, h, t, approved(s, t) && s.house[t] == h ? s.weeks[t] : 0, s.purse[h]);
    }

    int tune(int t, int what) {
        if (!tuneOk(t) || what < 0 || what > 5) {
            return -2;
        }
        int[] all = {plan.tunes.get(t).price, left(now, t).size(), now.worn[t], now.house[t],
            now.bought[t] ? 1 : 0, approved(now, t) ? now.weeks[t] : 0};
        return all[what];
    }

    int note(int t, int i) {
        return tuneOk(t) && i >= 0 && i < left(now, t).size() ? left(now, t).get(i) : -1;
    }

    int house(int h, int what) {
        if (!houseOk(h) || what < 0 || what > 3) {
            return -2;
        }
        int bought = 0;
        for (int t = 0; t < tunes(); t++) {
            bought += now.bought[t] && now.house[t] == h ? 1 << t : 0;
        }
        int[] all = {plan.houses.get(h).place, now.purse[h], approvedIn(now, h), bought};
        return all[what];
    }

    int glad(int h, int t) {
        return houseOk(h) && tuneOk(t) ? gladIn(now, h, t) : NO_GLAD;
    }

    void act(State before) {
        past.add(before);
        if (past.size() > 40) {
            past.remove(0);
        }
        future.clear();
    }

    int pass(State s, boolean humming) {
        int paid = 0;
        for (int h = 0; h < houses(); h++) {
            int t = approvedIn(s, h);
            if (t < 0) {
                continue;
            }
            s.weeks[t]++;
            s.seed = (137 * s.seed + 71) % 1000;
            if (humming && s.seed % 100 < plan.hums) {
                continue;
            }
            if (s.weeks[t] >= plan.approval) {
                if (gladIn(s, h, t) > 0 && s.purse[h] >= plan.tunes.get(t).price) {
                    s.purse[h] -= plan.tunes.get(t).price;
                    s.bought[t] = true;
                    paid++;
                } else {
                    s.house[t] = -1;
                    s.worn[t] = Math.min(99, s.worn[t] + 1);
                }
                s.weeks[t] = 0;
            }
        }
        s.week++;
        return paid;
    }

    int week() {
        if (now.week == 999) {
            return -1;
        }
        State before = now.copy();
        int paid = pass(now, true);
        act(before);
        return paid;
    }

    int bring(int t, int h) {
        if (!tuneOk(t) || !houseOk(h) || now.house[t] >= 0 || approvedIn(now, h) >= 0) {
            return NO_GLAD;
        }
        act(now.copy());
        now.house[t] = h;
        now.weeks[t] = 0;
        return gladIn(now, h, t);
    }

    int fetch(int t) {
        return tuneOk(t) && approved(now, t) ? takeAway(t) : -1;
    }

    int give(int t) {
        return tuneOk(t) && now.bought[t] ? takeAway(t) : -1;
    }

    int takeAway(int t) {
        act(now.copy());
        int h = now.house[t];
        now.house[t] = -1;
        now.bought[t] = false;
        now.weeks[t] = 0;
        return h;
    }

    int fill(int h, int more) {
        if (!houseOk(h) || more < 1 || more > 50 || now.purse[h] == 999) {
            return -1;
        }
        act(now.copy());
        now.purse[h] = Math.min(999, now.purse[h] + more);
        return now.purse[h];
    }

    boolean undo() {
        return step(past, future);
    }

    boolean redo() {
        return step(future, past);
    }

    boolean step(List<State> from, List<State> to) {
        if (from.isEmpty()) {
            return false;
        }
        to.add(now);
        now = from.remove(from.size() - 1);
        return true;
    }

    State ahead(int n, boolean humming) {
        State s = now.copy();
        for (int i = 0; i < n; i++) {
            pass(s, humming);
        }
        return s;
    }

    int will(int t, int n, int what) {
        if (!tuneOk(t) || n < 0 || n > 60 || what < 0 || what > 1) {
            return -2;
        }
        State s = ahead(n, what == 1);
        return s.house[t] + (s.bought[t] ? 10 : 0);
    }

    int purse(int h, int n) {
        return houseOk(h) && n >= 0 && n <= 60 ? ahead(n, false).purse[h] : -1;
    }

    boolean pays(int h, int t, int purse) {
        return gladWith(now, h, t, plan.approval, purse) > 0 && purse >= plan.tunes.get(t).price;
    }

    int takes(int h) {
        if (!houseOk(h)) {
            return -1;
        }
        int bits = 0;
        for (int t = 0; t < tunes(); t++) {
            bits += pays(h, t, now.purse[h]) ? 1 << t : 0;
        }
        return bits;
    }

    // The best list of choices, by count, then price, then the lists themselves (none as 99).
    List<Integer> best;
    int bestCount;
    int bestPrice;

    int round(int what) {
        if (what < 0 || what > 1) {
            return -1;
        }
        best = null;
        tryRound(new ArrayList<>());
        lying = new ArrayList<>(best.stream().map(t -> t == 99 ? -1 : t).toList());
        return what == 0 ? bestCount : bestPrice;
    }

    void tryRound(List<Integer> chosen) {
        int h = chosen.size();
        if (h == houses()) {
            int count = 0;
            int price = 0;
            for (int t : chosen) {
                count += t == 99 ? 0 : 1;
                price += t == 99 ? 0 : plan.tunes.get(t).price;
            }
            boolean better = best == null || count > bestCount || count == bestCount
                    && (price > bestPrice || price == bestPrice && before(chosen, best));
            if (better) {
                best = List.copyOf(chosen);
                bestCount = count;
                bestPrice = price;
            }
            return;
        }
        // From the last to the first, so that the order of trying does not help.
        chosen.add(99);
        tryRound(chosen);
        for (int t = tunes() - 1; t >= 0; t--) {
            chosen.set(h, 99);
            if (now.house[t] < 0 && approvedIn(now, h) < 0 && !chosen.contains(t) && pays(h, t, now.purse[h])) {
                chosen.set(h, t);
                tryRound(chosen);
            }
        }
        chosen.remove(h);
    }

    static boolean before(List<Integer> a, List<Integer> b) {
        for (int i = 0; i < a.size(); i++) {
            if (!a.get(i).equals(b.get(i))) {
                return a.get(i) < b.get(i);
            }
        }
        return false;
    }

    static List<List<Integer>> orders(List<Integer> of) {
        List<List<Integer>> all = new ArrayList<>();
        if (of.isEmpty()) {
            all.add(List.of());
        }
        for (Integer first : of) {
            List<Integer> rest = new ArrayList<>(of);
            rest.remove(first);
            for (List<Integer> tail : orders(rest)) {
                List<Integer> order = new ArrayList<>();
                order.add(first);
                order.addAll(tail);
                all.add(order);
            }
        }
        java.util.Collections.reverse(all);
        return all;
    }

    int walk(int place) {
        if (place < 0 || place > 99) {
            return -1;
        }
        List<Integer> all = new ArrayList<>();
        for (int h = 0; h < houses(); h++) {
            all.add(h);
        }
        int least = -1;
        List<Integer> found = null;
        for (List<Integer> order : orders(all)) {
            int at = place;
            int way = 0;
            for (int h : order) {
                way += Math.abs(plan.houses.get(h).place - at);
                at = plan.houses.get(h).place;
            }
            if (found == null || way < least || way == least && before(order, found)) {
                least = way;
                found = order;
            }
        }
        lying = new ArrayList<>(found);
        return least;
    }

    int barter() {
        List<Integer> having = new ArrayList<>();
        List<Integer> had = new ArrayList<>();
        for (int h = 0; h < houses(); h++) {
            if (approvedIn(now, h) >= 0) {
                having.add(h);
                had.add(approvedIn(now, h));
            }
        }
        int most = 0;
        List<Integer> found = null;
        for (List<Integer> order : orders(had)) {
            int sum = 0;
            boolean allowed = true;
            for (int i = 0; i < order.size(); i++) {
                int g = gladIn(now, having.get(i), order.get(i));
                allowed &= g >= gladIn(now, having.get(i), had.get(i));
                sum += g;
            }
            if (allowed && (found == null || sum > most || sum == most && before(order, found))) {
                most = sum;
                found = order;
            }
        }
        lying = new ArrayList<>();
        for (int h = 0; h < houses(); h++) {
            int i = having.indexOf(h);
            lying.add(i < 0 ? -1 : found.get(i));
        }
        return most;
    }

    int find(int a, int b, int c) {
        return where(List.of(a, b, c), false);
    }

    int hum(int a, int b, int c) {
        return where(List.of(a, b, c), true);
    }

    int where(List<Integer> three, boolean last) {
        for (int n : three) {
            if (n < 0 || n > 6) {
                return -1;
            }
        }
        int bits = 0;
        for (int t = 0; t < tunes(); t++) {
            List<Integer> notes = left(now, t);
            List<Integer> part = last ? notes.subList(notes.size() - 3, notes.size()) : notes;
            bits += java.util.Collections.indexOfSubList(part, three) >= 0 ? 1 << t : 0;
        }
        return bits;
    }

    int spinsters() {
        int bits = 0;
        for (int t = 0; t < tunes(); t++) {
            boolean some = false;
            for (int h = 0; h < houses(); h++) {
                some |= (takes(h) & 1 << t) != 0;
            }
            bits += some ? 0 : 1 << t;
        }
        return bits;
    }

    int pair(int t, int what) {
        if (!tuneOk(t) || houses() == 0 || what < 0 || what > 1) {
            return NO_GLAD;
        }
        int found = 0;
        for (int h = 0; h < houses(); h++) {
            found = gladIn(now, h, t) > gladIn(now, found, t) ? h : found;
        }
        return what == 0 ? found : gladIn(now, found, t);
    }

    int frayed(int t) {
        if (!tuneOk(t)) {
            return -1;
        }
        State s = now.copy();
        int more = 0;
        while (left(s, t).size() > 3) {
            s.worn[t]++;
            more++;
        }
        return more;
    }

    int rivals(int h, int o) {
        lying = new ArrayList<>();
        List<Integer> cart = new ArrayList<>();
        for (int t = 0; t < tunes(); t++) {
            if (now.house[t] < 0) {
                cart.add(t);
            }
        }
        if (!houseOk(h) || !houseOk(o) || h == o || cart.isEmpty()) {
            return -1;
        }
        int rests = 0;
        for (int a : cart) {
            for (int b : cart) {
                boolean rest = true;
                for (int x : cart) {
                    rest &= gain(h, x, b) <= gain(h, a, b) && gain(o, x, a) <= gain(o, b, a);
                }
                if (rest && rests == 0) {
                    lying.addAll(List.of(a, b));
                }
                rests += rest ? 1 : 0;
            }
        }
        return rests;
    }

    int gain(int h, int own, int others) {
        return own == others ? 0 : gladIn(now, h, own);
    }

    int sale(int h, int what) {
        if (!houseOk(h) || what < 0 || what > 1) {
            return -1;
        }
        int foundSet = -1;
        int foundPrice = -1;
        for (int set = (1 << tunes()) - 1; set >= 0; set--) {
            int sum = 0;
            boolean can = true;
            for (int t = 0; t < tunes(); t++) {
                if ((set & 1 << t) != 0) {
                    sum += plan.tunes.get(t).price;
                    can &= now.house[t] < 0 && pays(h, t, now.purse[h]);
                }
            }
            can &= sum <= now.purse[h];
            int count = Integer.bitCount(set);
            int foundCount = foundSet < 0 ? 99 : Integer.bitCount(foundSet);
            if (can && (sum > foundPrice || sum == foundPrice && count <= foundCount)) {
                foundSet = set;
                foundPrice = sum;
            }
        }
        return what == 0 ? foundPrice : foundSet;
    }

    int swap(int what) {
        for (int a = 0; a < houses(); a++) {
            for (int b = a + 1; b < houses(); b++) {
                int x = approvedIn(now, a);
                int y = approvedIn(now, b);
                if (x >= 0 && y >= 0 && gladIn(now, a, y) > gladIn(now, a, x) && gladIn(now, b, x) > gladIn(now, b, y)) {
                    return what == 0 ? a : what == 1 ? b : -1;
                }
            }
        }
        return -1;
    }

    int idle() {
        int bits = 0;
        for (int h = 0; h < houses(); h++) {
            bits += approvedIn(now, h) < 0 ? 1 << h : 0;
        }
        return bits;
    }

    int fashion() {
        int found = -1;
        long most = 0;
        for (int n = 0; n < 7; n++) {
            Integer note = n;
            long likers = plan.houses.stream().filter(h -> h.likes.contains(note)).count();
            if (likers > most) {
                most = likers;
                found = n;
            }
        }
        return found;
    }

    int due(int t) {
        if (!tuneOk(t) || !approved(now, t)) {
            return -1;
        }
        State s = now.copy();
        for (int n = 1; n <= 60; n++) {
            pass(s, false);
            if (!approved(s, t)) {
                return n;
            }
        }
        return -1;
    }

    int along(int p, int q) {
        if (p < 0 || p > 99 || q < 0 || q > 99) {
            return -1;
        }
        int bits = 0;
        for (int h = 0; h < houses(); h++) {
            int at = plan.houses.get(h).place;
            bits += p <= at && at <= q || q <= at && at <= p ? 1 << h : 0;
        }
        return bits;
    }

    int alike(int t, int o) {
        if (!tuneOk(t) || !tuneOk(o)) {
            return -1;
        }
        List<Integer> a = new ArrayList<>(left(now, t));
        List<Integer> b = new ArrayList<>(left(now, o));
        int same = 0;
        while (!a.isEmpty() && !b.isEmpty() && a.remove(a.size() - 1).equals(b.remove(b.size() - 1))) {
            same++;
        }
        return same;
    }

    int law(int h, int n) {
        if (!houseOk(h) || n < 0 || n > 999) {
            return -1;
        }
        int count = 0;
        for (int t = 0; t < tunes(); t++) {
            count += pays(h, t, n) ? 1 : 0;
        }
        return count;
    }

    int favourite() {
        int found = -1;
        int most = -1;
        for (int t = 0; t < tunes(); t++) {
            int count = 0;
            for (int h = 0; h < houses(); h++) {
                count += takes(h) >> t & 1;
            }
            if (count > most) {
                most = count;
                found = t;
            }
        }
        return found;
    }

    int earned() {
        int sum = 0;
        for (int t = 0; t < tunes(); t++) {
            sum += now.bought[t] ? plan.tunes.get(t).price : 0;
        }
        return sum;
    }

    int odds(int n, int part) {
        if (n < 0 || n > 4 || part < 0 || part > 1) {
            return -1;
        }
        BigInteger up = BigInteger.valueOf(100 - plan.hums).pow(n);
        BigInteger down = BigInteger.valueOf(100).pow(n);
        BigInteger both = up.gcd(down);
        return (part == 0 ? up : down).divide(both).intValueExact();
    }

    int lies(int i) {
        return i >= 0 && i < lying.size() ? lying.get(i) : -2;
    }

    int known(int t, int glad, boolean is) {
        if (!tuneOk(t) || glad < -999 || glad > 999 || knowns.size() == 30 || houses() == 0) {
            return -1;
        }
        knowns.add(new Known(t, glad, is, time));
        return knowns.size() - 1;
    }

    boolean untell(int k) {
        return k >= 0 && k < knowns.size() && untold.putIfAbsent(k, time) == null;
    }

    int later(int by) {
        if (by < 0 || by > 1000 || time + by > 100000) {
            return -1;
        }
        return time += by;
    }

    int gladBy(List<Integer> row, int t) {
        Tune tune = plan.tunes.get(t);
        return gladness(tune.notes, row, 0, 0, tune.price, plan.houses.get(houses() - 1).purse);
    }

    List<List<Integer>> rowsAt(int k) {
        List<List<Integer>> all = new ArrayList<>();
        for (int n = 0; n < 343 && houses() > 0; n++) {
            List<Integer> row = List.of(n / 49, n / 7 % 7, n % 7);
            boolean fits = true;
            for (int i = 0; i < knowns.size() && fits; i++) {
                Known known = knowns.get(i);
                boolean counts = known.told <= k && !(untold.containsKey(i) && untold.get(i) <= k);
                fits = !counts || gladBy(row, known.tune) >= known.glad == known.is;
            }
            if (fits) {
                all.add(row);
            }
        }
        return all;
    }

    int rows(int k) {
        return rowsAt(k).size();
    }

    int sure(int i, int k) {
        List<List<Integer>> all = rowsAt(k);
        if (i < 0 || i > 2 || all.isEmpty()) {
            return -1;
        }
        List<Integer> kinds = all.stream().map(row -> row.get(i)).distinct().toList();
        return kinds.size() == 1 ? kinds.get(0) : -2;
    }

    int ask(int what, int k) {
        List<List<Integer>> all = rowsAt(k);
        if (what < 0 || what > 1 || all.isEmpty() || tunes() == 0) {
            return -1;
        }
        int found = -1;
        int fewest = 999;
        for (int t = 0; t < tunes(); t++) {
            Map<Integer, Integer> parts = new HashMap<>();
            for (List<Integer> row : all) {
                parts.merge(gladBy(row, t), 1, Integer::sum);
            }
            int most = java.util.Collections.max(parts.values());
            if (most < fewest) {
                fewest = most;
                found = t;
            }
        }
        return what == 0 ? found : fewest;
    }

    int image(int box) {
        if (box < 0 || box > 2) {
            return -1;
        }
        boxes[box] = now.copy();
        return now.week;
    }

    int restore(int box) {
        if (box < 0 || box > 2 || boxes[box] == null) {
            return -1;
        }
        now = boxes[box].copy();
        past.clear();
        future.clear();
        return now.week;
    }

    int about(int what) {
        int cart = 0;
        int paid = 0;
        for (int t = 0; t < tunes(); t++) {
            cart += now.house[t] < 0 ? 1 << t : 0;
            paid += now.bought[t] ? 1 << t : 0;
        }
        int[] all = {houses(), tunes(), plan.approval, cart, paid, now.week, now.seed, past.size(), future.size(),
            knowns.size(), time, tape.length, plan.units, lying.size(), plan.hums};
        return what >= 0 && what < all.length ? all[what] : -1;
    }
}
