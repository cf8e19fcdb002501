import java.util.ArrayList;
import java.util.Arrays;
import java.util.Collections;
import java.util.HashMap;
import java.util.HashSet;
import java.util.List;
import java.util.Map;
import java.util.Set;
import java.util.regex.Matcher;
import java.util.regex.Pattern;

/** A second reading of the document, as plain as can be: lists, sets and exceptions, nothing shared with SitDown. */
public final class Model {
    /** A finding, on its way to the answer. */
    static final class Finding extends RuntimeException {
        private static final long serialVersionUID = 1L;
        final int code;

        Finding(int code) {
            super(null, null, false, false);
            this.code = code;
        }
    }

    private static final class Hold {
        int kind, a, b, warmth = 12, meals, passed, guards, cost, worth;
        boolean flooded, run, held, open = true;

        Hold copied() {
            Hold h = new Hold();
            h.kind = kind; h.a = a; h.b = b; h.warmth = warmth; h.meals = meals; h.passed = passed;
            h.guards = guards; h.cost = cost; h.worth = worth;
            h.flooded = flooded; h.run = run; h.held = held; h.open = open;
            return h;
        }
    }

    private static final class Text {
        int judge, from, to, told;
        List<String> clauses;
        /** The closed HOURS in which it was in force. */
        Set<Integer> hours = new HashSet<>();
    }

    private static final class World {
        List<Hold> holds = new ArrayList<>();
        List<int[]> men = new ArrayList<>();
        List<int[]> works = new ArrayList<>();
        List<Text> texts = new ArrayList<>();
        List<int[]> rumours = new ArrayList<>();
        Set<Integer> judgesOut = new HashSet<>();
        Map<Integer, int[]> book = new HashMap<>();
        int[] stock = new int[6];
        int[][] lists = new int[6][2];
        int[][][] moves = new int[2][3][2];
        int hour, outside, cars, squads;

        World copied() {
            World w = new World();
            for (Hold h : holds) w.holds.add(h.copied());
            for (int[] m : men) w.men.add(m.clone());
            for (int[] m : works) w.works.add(m.clone());
            for (int[] m : rumours) w.rumours.add(m.clone());
            for (Text t : texts) {
                Text u = new Text();
                u.judge = t.judge; u.from = t.from; u.to = t.to; u.told = t.told; u.clauses = t.clauses;
                u.hours = new HashSet<>(t.hours);
                w.texts.add(u);
            }
            w.judgesOut.addAll(judgesOut);
            w.book.putAll(book);
            w.stock = stock.clone();
            for (int i = 0; i < 6; i++) w.lists[i] = lists[i].clone();
            for (int i = 0; i < 6; i++) w.moves[i / 3][i % 3] = moves[i / 3][i % 3].clone();
            w.hour = hour; w.outside = outside; w.cars = cars; w.squads = squads;
            return w;
        }
    }

    private World w = new World();
    private World kept = null;
    private final StringBuilder tape = new StringBuilder();
    private final int[][] sheets = new int[4][];
    private final int[] bits = new int[4];
    private final int[] told = new int[7];

    /** What a call comes to; findings are counted here. */
    int answer(String name, Object... args) throws Exception {
        for (java.lang.reflect.Method m : Model.class.getDeclaredMethods()) {
            if (m.getName().equals(name) && m.getParameterCount() == args.length) {
                try {
                    return (Integer) m.invoke(this, args);
                } catch (java.lang.reflect.InvocationTargetException e) {
                    if (!(e.getCause() instanceof Finding)) throw e;
                    int code = ((Finding) e.getCause()).code;
                    if (!name.equals("status")) told[-1000001 - code]++;
                    return code;
                }
            }
        }
        throw new IllegalStateException(name);
    }

    /** For those who choose calls: findings of these are not counted. */
    boolean is(int hold, int kind) {
        return hold >= 0 && hold < w.holds.size() && under(w.holds.get(hold).kind, kind);
    }

    int page(int day, int i) {
        return w.book.containsKey(day) ? w.book.get(day)[i] : 0;
    }

    private static void ask(boolean fine, int code) {
        if (!fine) throw new Finding(code);
    }

    private static void range(int v, int low, int high) {
        ask(low <= v && v <= high, Due.BEYOND);
    }

    private static boolean under(int kind, int above) {
        if (kind == above || above == 0) return true;
        return above == 1 && kind == 2 || above == 4 && kind == 5;
    }

    private boolean isShop(int h) {
        return h >= 0 && h < w.holds.size() && under(w.holds.get(h).kind, 1);
    }

    private Hold need(int h, int kind) {
        range(h, 0, w.holds.size() - 1);
        ask(under(w.holds.get(h).kind, kind), Due.KIND);
        return w.holds.get(h);
    }

    private List<Integer> shops() {
        List<Integer> s = new ArrayList<>();
        for (int h = 0; h < w.holds.size(); h++) if (isShop(h)) s.add(h);
        return s;
    }

    int hold(int kind, int numbers) {
        range(kind, 0, 6);
        range(numbers, 0, 9999);
        int a = numbers / 100, b = numbers % 100;
        if (kind == 1) { range(a, 0, 5); range(b, 0, 9); }
        if (kind == 2) range(a, 1, 9);
        if (kind == 3) ask(isShop(a) && (b == 99 || isShop(b) && a != b), Due.BEYOND);
        if (kind == 4) { ask(isShop(a), Due.BEYOND); range(b, 0, 1); }
        if (kind == 5) { range(a, 0, 0); range(b, 0, 1); }
        ask(w.holds.size() < 24, Due.FULL);
        ask(!under(kind, 1) || shops().size() < 8, Due.FULL);
        Hold h = new Hold();
        h.kind = kind; h.a = a; h.b = b; h.meals = b; h.cost = a; h.worth = b;
        w.holds.add(h);
        return w.holds.size() - 1;
    }

    int as(int hold, int kind) {
        range(kind, 0, 6);
        need(hold, kind);
        return hold;
    }

    private static int one(boolean is) {
        return is ? 1 : 0;
    }

    int of(int hold, int what) {
        range(hold, 0, w.holds.size() - 1);
        range(what, 0, 12);
        Hold h = need(hold, what < 3 ? 0 : what < 7 ? 1 : what < 8 ? 2 : what < 10 ? 3 : what < 11 ? 4 : 6);
        int[] all = {h.kind, h.a, h.b, h.warmth, one(h.flooded), one(h.run), one(isShop(hold) && makes(hold)), h.meals,
            one(h.held), h.guards, one(h.open), h.cost, h.worth};
        return all[what];
    }

    private boolean makes(int shop) {
        Hold h = w.holds.get(shop);
        return h.kind == 1 && h.run && !h.flooded && menIn(Set.of(shop)) == 0 && !isBarred("make", shop);
    }

    int run(int shop, boolean is) {
        Hold h = need(shop, 1);
        int answer = one(h.run != is);
        h.run = is;
        return answer;
    }

    int shut(int pipe, boolean open) {
        Hold h = need(pipe, 4);
        int answer = one(h.open != open);
        h.open = open;
        return answer;
    }

    int outside(int v) {
        range(v, 0, 9);
        int before = w.outside;
        w.outside = v;
        return before;
    }

    private boolean piped(int shop, int what) {
        for (Hold h : w.holds) {
            if ((h.kind == 5 || h.kind == 4 && h.a == shop) && h.b == what && h.open) return true;
        }
        return false;
    }

    private int warmer(int shop, int warmth) {
        if (piped(shop, 0)) return Math.min(20, warmth + 1);
        return warmth > w.outside ? warmth - 1 : warmth < w.outside ? warmth + 1 : warmth;
    }

    int cold(int shop, int v) {
        range(shop, 0, w.holds.size() - 1);
        range(v, 0, 20);
        int warmth = need(shop, 1).warmth;
        for (int h = w.hour; h <= w.hour + 99; h++) {
            warmth = warmer(shop, warmth);
            if (warmth <= v) return h;
        }
        throw new Finding(Due.NONE);
    }

    int man(int shop, int state) {
        range(shop, 0, w.holds.size() - 1);
        range(state, 0, 9999);
        need(shop, 1);
        ask(w.men.size() < 16, Due.FULL);
        w.men.add(new int[] {shop, state / 100, state % 100, 0});
        return w.men.size() - 1;
    }

    private int[] theMan(int man) {
        range(man, 0, w.men.size() - 1);
        return w.men.get(man);
    }

    int where(int man, int what) {
        int[] m = theMan(man);
        range(what, 0, 3);
        return m[what];
    }

    /** SHOPS and how many GATES they are away. */
    private Map<Integer, Integer> ways(int shop) {
        Map<Integer, Integer> away = new HashMap<>();
        away.put(shop, 0);
        List<Integer> queue = new ArrayList<>(List.of(shop));
        for (int i = 0; i < queue.size(); i++) {
            int at = queue.get(i);
            for (Hold g : w.holds) {
                if (g.kind != 3 || !g.held || g.b == 99 || g.a != at && g.b != at) continue;
                int next = g.a == at ? g.b : g.a;
                if (!away.containsKey(next)) {
                    away.put(next, away.get(at) + 1);
                    queue.add(next);
                }
            }
        }
        return away;
    }

    private int menIn(Set<Integer> shops) {
        int sum = 0;
        for (int[] m : w.men) if (shops.contains(m[0])) sum++;
        return sum;
    }

    int go(int man, int shop) {
        int[] m = theMan(man);
        need(shop, 1);
        ask(m[0] >= 0, Due.STATE);
        ask(ways(m[0]).containsKey(shop), Due.NONE);
        int answer = one(m[0] != shop);
        m[0] = shop;
        return answer;
    }

    int hear(int man, int v) {
        int[] m = theMan(man);
        range(v, -20, 20);
        ask(m[0] >= 0, Due.STATE);
        m[1] += v;
        if (m[1] < 0) m[1] = 0;
        if (m[1] > 99) m[1] = 99;
        return m[1];
    }

    private void tire(int[] m, int time) {
        Hold h = w.holds.get(m[0]);
        if (m[3] >= 12) m[1]--;
        if (h.warmth < 5) m[1]--;
        if (h.flooded) m[1] -= 2;
        if (time == 0 && m[2] >= 50) m[1]--;
        if (m[1] < 0) m[1] = 0;
    }

    int stay(int man) {
        int[] m = theMan(man).clone();
        ask(m[0] >= 0, Due.STATE);
        for (int h = w.hour; h <= w.hour + 99; h++) {
            if (m[3] < 99) m[3]++;
            tire(m, h % 24);
            if (m[1] < m[2] / 10) return h;
        }
        throw new Finding(Due.NONE);
    }

    int pass(int kitchen, int n) {
        range(kitchen, 0, w.holds.size() - 1);
        range(n, 0, 9);
        Hold h = need(kitchen, 2);
        ask(!isBarred("pass", kitchen), Due.STATE);
        ask(h.passed + n <= h.a && h.meals + n <= 99, Due.SIZE);
        h.passed += n;
        h.meals += n;
        return h.meals;
    }

    int food(int shop) {
        need(shop, 1);
        Set<Integer> there = ways(shop).keySet();
        int men = menIn(there), meals = 0;
        for (int s : there) if (w.holds.get(s).kind == 2) meals += w.holds.get(s).meals;
        ask(men > 0, Due.NONE);
        return meals / men;
    }

    private static int bitsOf(Iterable<Integer> set) {
        int sum = 0;
        for (int s : set) sum += 1 << s;
        return sum;
    }

    int reach(int shop) {
        need(shop, 1);
        return bitsOf(ways(shop).keySet());
    }

    int whistle(int shop, int gates) {
        range(shop, 0, w.holds.size() - 1);
        range(gates, 0, 9);
        need(shop, 1);
        Set<Integer> near = new HashSet<>();
        ways(shop).forEach((s, away) -> {
            if (away <= gates) near.add(s);
        });
        return menIn(near);
    }

    int force(int gate) {
        Hold g = need(gate, 3);
        int men = 0;
        for (int[] m : w.men) {
            if (m[0] < 0) continue;
            Set<Integer> there = ways(m[0]).keySet();
            if (there.contains(g.a) || g.b != 99 && there.contains(g.b)) men++;
        }
        return men;
    }

    int take(int gate) {
        Hold g = need(gate, 3);
        ask(!g.held && !isBarred("take", g.a), Due.STATE);
        int men = force(gate);
        ask(men != 0 && men >= g.guards, Due.NONE);
        g.held = true;
        g.guards = 0;
        return men;
    }

    int guard(int gate, int n) {
        range(gate, 0, w.holds.size() - 1);
        range(n, 0, 99);
        Hold g = need(gate, 3);
        if (!g.held || n > force(gate)) {
            g.held = false;
            g.guards = n;
            return 1;
        }
        return 0;
    }

    int work(int needs) {
        range(needs, 0, 999999);
        ask(w.works.size() < 6, Due.FULL);
        String digits = String.format("%06d", needs);
        int[] row = new int[6];
        for (int p = 0; p < 6; p++) row[p] = digits.charAt(p) - '0';
        w.works.add(row);
        return w.works.size() - 1;
    }

    private int[] theSheet(int s) {
        ask(sheets[s] != null, Due.MISSING);
        return sheets[s];
    }

    int stock(int s) {
        range(s, 0, 3);
        int[] row = theSheet(s);
        ask(row.length == 6, Due.SIZE);
        for (int v : row) ask(v == -9999 || v >= 0 && v <= 9999, Due.BEYOND);
        int others = 0;
        for (int p = 0; p < 6; p++) {
            if (row[p] == -9999) continue;
            others += one(w.stock[p] != row[p]);
            w.stock[p] = row[p];
        }
        return others;
    }

    int part(int part) {
        range(part, 0, 5);
        return w.stock[part];
    }

    /** (4) and (5) on a stock: for each of WORKS the PART that it lacks, or -1. */
    private List<Integer> produce(int[] stock, Set<Integer> makers) {
        for (int s : makers) {
            Hold h = w.holds.get(s);
            stock[h.a] = Math.min(9999, stock[h.a] + h.b);
        }
        List<Integer> lacks = new ArrayList<>();
        for (int[] need : w.works) {
            int lack = -1;
            for (int p = 5; p >= 0; p--) if (stock[p] < need[p]) lack = p;
            if (lack < 0) for (int p = 0; p < 6; p++) stock[p] -= need[p];
            lacks.add(lack);
        }
        return lacks;
    }

    private Set<Integer> makers() {
        Set<Integer> set = new HashSet<>();
        for (int s : shops()) if (makes(s)) set.add(s);
        return set;
    }

    int last(int work, int what) {
        range(work, 0, w.works.size() - 1);
        range(what, 0, 1);
        int[] stock = w.stock.clone();
        for (int h = w.hour; h < w.hour + 48; h++) {
            int lack = produce(stock, makers()).get(work);
            if (lack >= 0) return what == 0 ? h : lack;
        }
        throw new Finding(Due.NONE);
    }

    int least(int works) {
        range(works, 1, (1 << w.works.size()) - 1);
        List<Integer> found = new ArrayList<>();
        Set<Integer> makers = makers();
        int all = bitsOf(makers);
        for (int set = 0; set <= all; set++) {
            if ((set & all) != set) continue;
            Set<Integer> left = new HashSet<>();
            for (int s : makers) if ((set >> s & 1) == 0) left.add(s);
            int[] stock = w.stock.clone();
            int stood = 0;
            for (int h = 0; h < 48; h++) {
                List<Integer> lacks = produce(stock, left);
                for (int i = 0; i < lacks.size(); i++) if (lacks.get(i) >= 0) stood |= 1 << i;
            }
            if ((stood & works) == works) found.add(set);
        }
        return fewest(found);
    }

    private static int fewest(List<Integer> sets) {
        ask(!sets.isEmpty(), Due.NONE);
        sets.sort((s, t) -> {
            int byCount = Integer.bitCount(s) - Integer.bitCount(t);
            return byCount != 0 ? byCount : Integer.compare(s, t);
        });
        return sets.get(0);
    }

    int feed(int bytes, int n) {
        range(n, 1, 4);
        ask(tape.length() + n <= 100, Due.FULL);
        for (int i = n; i >= 1; i--) tape.append((char) ((bytes >>> 8 * (i - 1)) & 0xff));
        return tape.length();
    }

    private static final String TEST = "(?:day|hour|men|warm)[=<>][0-9]{1,3}";
    private static final String CLAUSE =
        "(?:may|bar) (?:leave|pass|take|make)(?: when " + TEST + "(?:&" + TEST + "){0,2})?";
    private static final Pattern TEXT = Pattern.compile(CLAUSE + "(?:;" + CLAUSE + "){0,4}");

    int text(int judge, int from, int to) {
        range(judge, 0, 3);
        range(from, 0, 959);
        range(to, from, 959);
        ask(w.texts.size() < 8, Due.FULL);
        for (int i = 0; i < tape.length(); i++) {
            Matcher m = TEXT.matcher(tape.substring(0, i + 1));
            if (!m.matches() && !m.hitEnd()) return -1 - i;
        }
        if (!TEXT.matcher(tape).matches()) return -1 - tape.length();
        Text t = new Text();
        t.judge = judge; t.from = from; t.to = to; t.told = w.hour;
        t.clauses = Arrays.asList(tape.toString().split(";"));
        w.texts.add(t);
        tape.setLength(0);
        return w.texts.size() - 1;
    }

    int wipe() {
        int n = tape.length();
        tape.setLength(0);
        return n;
    }

    private boolean inForce(Text t) {
        return w.hour >= t.from && w.hour <= t.to && !w.judgesOut.contains(t.judge);
    }

    int shares(int judge) {
        range(judge, 0, 3);
        ask(!w.judgesOut.contains(judge), Due.STATE);
        int n = 0;
        for (Text t : w.texts) n += one(t.judge == judge && inForce(t));
        w.judgesOut.add(judge);
        return n;
    }

    int between(int text) {
        range(text, 0, w.texts.size() - 1);
        return w.texts.get(text).hours.size();
    }

    private boolean isSo(String test, int shop) {
        int sign = Math.max(test.indexOf('='), Math.max(test.indexOf('<'), test.indexOf('>')));
        int number = Integer.parseInt(test.substring(sign + 1));
        int v = Map.of("day", w.hour / 24, "hour", w.hour % 24, "men", menIn(Set.of(shop)),
            "warm", w.holds.get(shop).warmth).get(test.substring(0, sign));
        return test.charAt(sign) == '=' ? v == number : test.charAt(sign) == '<' ? v < number : v > number;
    }

    /** TEXT and CLAUSE, or null. */
    private int[] theClause(String word, int shop) {
        for (int t = w.texts.size() - 1; t >= 0; t--) {
            if (!inForce(w.texts.get(t))) continue;
            List<String> clauses = w.texts.get(t).clauses;
            for (int c = 0; c < clauses.size(); c++) {
                String[] pieces = clauses.get(c).split(" ");
                if (!pieces[1].equals(word)) continue;
                boolean so = true;
                if (pieces.length > 2) for (String test : pieces[3].split("&")) so &= isSo(test, shop);
                if (so) return new int[] {t, c};
            }
        }
        return null;
    }

    private boolean isBarred(String word, int shop) {
        int[] c = theClause(word, shop);
        return c != null && w.texts.get(c[0]).clauses.get(c[1]).startsWith("bar");
    }

    private static final String[] WORDS = {"leave", "pass", "take", "make"};

    int barred(int word, int shop) {
        range(word, 0, 3);
        need(shop, 1);
        return one(isBarred(WORDS[word], shop));
    }

    int why(int word, int shop) {
        range(word, 0, 3);
        need(shop, 1);
        int[] c = theClause(WORDS[word], shop);
        ask(c != null, Due.NONE);
        return 10 * c[0] + c[1];
    }

    int rumour(int gate, int credit) {
        range(gate, 0, w.holds.size() - 1);
        range(credit, 1, 9);
        need(gate, 3);
        ask(w.rumours.size() < 6, Due.FULL);
        w.rumours.add(new int[] {gate, credit, 0});
        return w.rumours.size() - 1;
    }

    int out(int rumour, boolean is) {
        range(rumour, 0, w.rumours.size() - 1);
        int[] r = w.rumours.get(rumour);
        int answer = one(r[2] != one(is));
        r[2] = one(is);
        return answer;
    }

    int squads(int n) {
        range(n, 0, 9);
        int before = w.squads;
        w.squads = n;
        return before;
    }

    /** SQUADS by GATE, with a set of RUMOURS OUT beside those that are. */
    private int[] setOut(int more) {
        int[] set = new int[24];
        for (int i = 0; i < w.squads; i++) {
            int best = -1;
            double most = 0;
            for (int g = 0; g < w.holds.size(); g++) {
                if (w.holds.get(g).kind != 3 || w.holds.get(g).held) continue;
                int credit = 0;
                for (int r = 0; r < w.rumours.size(); r++) {
                    int[] rumour = w.rumours.get(r);
                    if (rumour[0] == g && (rumour[2] == 1 || (more >> r & 1) == 1)) credit += rumour[1];
                }
                // 2520 has all of 1 to 10 as divisors: no fraction is cut
                double f = credit * 2520 / (set[g] + 1);
                if (f > most) {
                    most = f;
                    best = g;
                }
            }
            if (best >= 0) set[best]++;
        }
        return set;
    }

    int believe() {
        int[] set = setOut(0);
        int others = 0;
        for (int g = 0; g < w.holds.size(); g++) {
            Hold h = w.holds.get(g);
            if (h.kind != 3 || h.held) continue;
            others += one(h.guards != 9 * set[g]);
            h.guards = 9 * set[g];
        }
        return others;
    }

    int feint(int gate) {
        Hold g = need(gate, 3);
        ask(!g.held, Due.STATE);
        List<Integer> found = new ArrayList<>();
        for (int set = 0; set < 1 << w.rumours.size(); set++) {
            boolean fine = true;
            for (int r = 0; r < w.rumours.size(); r++) fine &= (set >> r & 1) == 0 || w.rumours.get(r)[2] == 0;
            int men = force(gate);
            if (fine && men != 0 && men >= 9 * setOut(set)[gate]) found.add(set);
        }
        return fewest(found);
    }

    int copyTerm(int term, int cost, int worth) {
        range(term, 0, w.holds.size() - 1);
        range(cost, 0, 99);
        range(worth, 0, 99);
        Hold h = need(term, 6);
        h.cost = cost;
        h.worth = worth;
        return one(h.a != cost || h.b != worth);
    }

    int unlike() {
        Set<Integer> set = new HashSet<>();
        for (int t = 0; t < w.holds.size(); t++) {
            Hold h = w.holds.get(t);
            if (h.kind == 6 && !(h.a == h.cost && h.b == h.worth)) set.add(t);
        }
        return bitsOf(set);
    }

    int sign(int terms, int ask, int limit) {
        List<Integer> told = new ArrayList<>();
        for (int t = 0; t < 32; t++) {
            if ((terms >>> t & 1) == 0) continue;
            ask(t < w.holds.size() && w.holds.get(t).kind == 6, Due.BEYOND);
            told.add(t);
        }
        range(ask, 0, 999);
        range(limit, 0, 999);
        ask(told.size() <= 9, Due.SIZE);
        List<int[]> found = new ArrayList<>();
        for (int pick = 0; pick < 1 << told.size(); pick++) {
            int[] sums = new int[4];
            int set = 0;
            for (int i = 0; i < told.size(); i++) {
                if ((pick >> i & 1) == 0) continue;
                Hold h = w.holds.get(told.get(i));
                sums[0] += h.a; sums[1] += h.b; sums[2] += h.cost; sums[3] += h.worth;
                set |= 1 << told.get(i);
            }
            if (sums[1] >= ask && sums[3] >= ask && sums[0] <= limit && sums[2] <= limit) {
                found.add(new int[] {sums[0], Integer.bitCount(set), set});
            }
        }
        ask(!found.isEmpty(), Due.NONE);
        return Collections.min(found, Arrays::compare)[2];
    }

    int list(int k, int names, int foreman) {
        range(k, 0, 5);
        range(names, 0, 999);
        range(foreman, 0, names);
        w.lists[k] = new int[] {names, foreman};
        return 1;
    }

    int want(int what) {
        range(what, 0, 1);
        int least = 0, most = 0;
        for (int[] l : w.lists) {
            least = Math.max(least, l[0] - l[1]);
            most += l[0];
        }
        return what == 0 ? least : Math.min(4000, most);
    }

    int move(int side, int k, int will, int orders) {
        range(side, 0, 1);
        range(k, 0, 2);
        range(will, -9, 9);
        range(orders, -9, 9);
        w.moves[side][k] = new int[] {will, orders};
        return 1;
    }

    /** The half moves are numbered: even ones are the men's. */
    private int game(int half, int halves, int will, int orders, int[] plan) {
        if (half > 0 && will <= 0) return -1;
        if (half > 0 && orders <= 0) return 1;
        if (half == halves) return 0;
        List<Integer> all = new ArrayList<>();
        for (int k = 0; k < 3; k++) {
            if (plan != null && half % 2 == 0 && plan[half / 2] != k) continue;
            int[] m = w.moves[half % 2][k];
            all.add(game(half + 1, halves, will + m[0], orders + m[1], plan));
        }
        return half % 2 == 0 ? Collections.max(all) : Collections.min(all);
    }

    int play(int will, int orders, int n) {
        range(will, 1, 99);
        range(orders, 1, 99);
        range(n, 1, 5);
        return game(0, 2 * n, will, orders, null);
    }

    int best(int will, int orders, int n) {
        int due = play(will, orders, n);
        for (int k = 0; ; k++) {
            int[] m = w.moves[0][k];
            if (game(1, 2 * n, will + m[0], orders + m[1], null) == due) return k;
        }
    }

    int judge(int s, int will, int orders) {
        range(s, 0, 3);
        range(will, 1, 99);
        range(orders, 1, 99);
        int[] row = theSheet(s);
        ask(row.length >= 1 && row.length <= 5, Due.SIZE);
        for (int v : row) range(v, 0, 2);
        return game(0, 2 * row.length, will, orders, row);
    }

    int tick(int n) {
        range(n, 1, 99);
        ask(w.hour + n <= 959, Due.FULL);
        for (int i = 0; i < n; i++) closeHour();
        return w.hour;
    }

    private void closeHour() {
        int time = w.hour % 24;
        for (int s : shops()) {
            Hold h = w.holds.get(s);
            h.warmth = warmer(s, h.warmth);
            if (h.warmth <= 1 && piped(s, 1)) h.flooded = true;
        }
        for (int[] m : w.men) {
            if (m[0] < 0) continue;
            boolean ate = false;
            for (int k = 0; k < w.holds.size() && !ate && time > 0 && time % 6 == 0; k++) {
                Hold h = w.holds.get(k);
                if (h.kind == 2 && h.meals > 0 && ways(k).containsKey(m[0])) {
                    h.meals--;
                    ate = true;
                }
            }
            m[3] = ate ? 0 : Math.min(99, m[3] + 1);
            if (ate) m[1] = Math.min(99, m[1] + 3);
        }
        for (int[] m : w.men) {
            if (m[0] < 0) continue;
            tire(m, time);
            if (m[1] < m[2] / 10 && !isBarred("leave", m[0])) m[0] = -1;
        }
        int stood = 0;
        for (int lack : produce(w.stock, makers())) {
            stood += one(lack >= 0);
            w.cars += one(lack < 0);
        }
        if (time == 23) {
            int[] page = new int[6];
            for (int[] m : w.men) {
                page[0] += one(m[0] >= 0);
                page[1] += m[0] >= 0 ? m[1] : 0;
            }
            for (Hold h : w.holds) {
                page[2] += h.kind == 2 ? h.meals : 0;
                page[5] += one(h.kind == 3 && h.held);
            }
            page[3] = w.cars;
            page[4] = stood;
            w.book.put(w.hour / 24, page);
        }
        for (Text t : w.texts) if (inForce(t)) t.hours.add(w.hour);
        for (Hold h : w.holds) h.passed = 0;
        w.hour++;
    }

    int book(int day, int what) {
        range(what, 0, 5);
        range(day, 0, 39);
        ask(w.book.containsKey(day), Due.NONE);
        return w.book.get(day)[what];
    }

    int check(int day, int s) {
        range(day, 0, 39);
        range(s, 0, 3);
        ask(w.book.containsKey(day), Due.NONE);
        int[] row = theSheet(s);
        ask(row.length == 6, Due.SIZE);
        int differs = Arrays.mismatch(row, w.book.get(day));
        return differs < 0 ? 6 : differs;
    }

    int sheet(int s, int b, int n) {
        range(s, 0, 3);
        ask(List.of(0, 8, 16, 32).contains(b), Due.BEYOND);
        ask(n >= 0, Due.SIZE);
        range(n, 0, 12);
        sheets[s] = b == 0 ? null : new int[n];
        bits[s] = b;
        return b == 0 ? 0 : n;
    }

    int write(int s, int i, int v) {
        range(s, 0, 3);
        int[] row = theSheet(s);
        range(i, 0, row.length - 1);
        int before = row[i];
        row[i] = v << (32 - bits[s]) >> (32 - bits[s]);
        return before;
    }

    int copy(int s, int from, int t, int to, int n) {
        range(s, 0, 3);
        range(t, 0, 3);
        int[] source = theSheet(s);
        int[] goal = theSheet(t);
        ask(bits[s] == bits[t], Due.KIND);
        ask(from >= 0 && to >= 0 && n >= 0, Due.BEYOND);
        ask((long) from + n <= source.length && (long) to + n <= goal.length, Due.BEYOND);
        int[] before = source.clone();
        for (int i = 0; i < n; i++) goal[to + i] = before[from + i];
        return n;
    }

    int image() {
        kept = w.copied();
        return 1;
    }

    int undo() {
        ask(kept != null, Due.NONE);
        w = kept.copied();
        return w.hour;
    }

    int tear() {
        int answer = one(kept != null);
        kept = null;
        return answer;
    }

    int count(int what) {
        range(what, 0, 13);
        int inShops = 0, force = 0, held = 0;
        for (int[] m : w.men) inShops += one(m[0] >= 0);
        for (Text t : w.texts) force += one(inForce(t));
        for (Hold h : w.holds) held += one(h.held);
        return new int[] {w.holds.size(), shops().size(), w.men.size(), inShops, w.works.size(), w.cars, w.texts.size(),
            force, w.rumours.size(), w.hour, held, makers().size(), tape.length(), w.squads}[what];
    }

    int status(int which) {
        range(which, -1, 6);
        return which < 0 ? Arrays.stream(told).sum() : told[which];
    }
}
