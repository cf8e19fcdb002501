/**
 * Works held from inside for weeks, shop by shop, as the document SitDown tells them.
 *
 * <p>The calls below ask for findings and answer; the sections of the document that they speak of are kept by the
 * classes inside. All rows are made once, with the object, and are used again by every call.
 */
public final class SitDown {
    private static final int BEYOND = -1000001;
    private static final int FULL = -1000002;
    private static final int KIND = -1000003;
    private static final int NONE = -1000004;
    private static final int STATE = -1000005;
    private static final int MISSING = -1000006;
    private static final int SIZE = -1000007;
    private static final int FINDINGS = 7;
    private static final int FINE = 0;
    private static final int NOTHING = -1;

    private static final int HOLD = 0;
    private static final int SHOP = 1;
    private static final int KITCHEN = 2;
    private static final int GATE = 3;
    private static final int PIPE = 4;
    private static final int MAIN = 5;
    private static final int TERM = 6;
    private static final int KINDS = 7;
    /** By what of(): the kind that has it. */
    private static final int[] KIND_THAT_HAS = {
        HOLD, HOLD, HOLD, SHOP, SHOP, SHOP, SHOP, KITCHEN, GATE, GATE, PIPE, TERM, TERM
    };
    private static final int WHETHER_IT_MAKES = 6;

    private static final int LEAVE = 0;
    private static final int PASS = 1;
    private static final int TAKE = 2;
    private static final int MAKE = 3;
    private static final int WORDS = 4;

    private static final int MOST_HOLDS = 24;
    private static final int MOST_SHOPS = 8;
    private static final int MOST_MEN = 16;
    private static final int MOST_WORKS = 6;
    private static final int MOST_TEXTS = 8;
    private static final int MOST_CLAUSES = 5;
    private static final int MOST_TESTS = 3;
    private static final int MOST_RUMOURS = 6;
    private static final int MOST_TERMS_TO_SIGN = 9;
    private static final int MOST_STOCK = 9999;
    private static final int MOST_WARMTH = 20;
    private static final int MOST_BYTES = 100;
    private static final int MOST_NUMBERS = 12;
    private static final int MOST_STEPS = 5;
    private static final int MOST_NAMES_TOGETHER = 4000;

    private static final int JUDGES = 4;
    private static final int PARTS = 6;
    private static final int LISTS = 6;
    private static final int SHEETS = 4;
    private static final int SIDES = 2;
    private static final int MOVES = 3;
    private static final int DAYS = 40;
    private static final int PAGE = 6;
    private static final int HOURS_OF_DAY = 24;
    private static final int LAST_HOUR = 959;
    private static final int STREET = 99;
    private static final int STOCK_STAYS = -9999;
    private static final int GUARDS_OF_SQUAD = 9;
    /** How many HOURS cold() and stay() look at. */
    private static final int LONG_SIGHT = 100;
    /** How many HOURS last() and least() look at. */
    private static final int SHORT_SIGHT = 48;

    private static final int LOST = -1;
    private static final int OPEN = 0;
    private static final int WON = 1;

    private final Site site = new Site();
    private final Site kept = new Site();
    private final Sheet[] sheets = new Sheet[SHEETS];
    private final Tape tape = new Tape();
    private final int[] findings = new int[FINDINGS];
    private boolean isKept = false;

    public SitDown() {
        for (int s = 0; s < SHEETS; s++) {
            sheets[s] = new Sheet();
        }
    }

    // ---- holds

    public int hold(int kind, int numbers) {
        if (!site.holds.allows(kind, numbers)) {
            return found(BEYOND);
        }
        if (!site.holds.hasRoomFor(kind)) {
            return found(FULL);
        }
        return site.holds.add(kind, numbers / 100, numbers % 100);
    }

    public int as(int hold, int kind) {
        if (!isWithin(kind, 0, KINDS - 1)) {
            return found(BEYOND);
        }
        int finding = site.holds.findingOf(hold, kind);
        return finding == FINE ? hold : found(finding);
    }

    public int of(int hold, int what) {
        if (!isWithin(what, 0, KIND_THAT_HAS.length - 1)) {
            return found(BEYOND);
        }
        int finding = site.holds.findingOf(hold, KIND_THAT_HAS[what]);
        if (finding != FINE) {
            return found(finding);
        }
        return what == WHETHER_IT_MAKES ? asNumber(site.makes(hold)) : site.holds.number(hold, what);
    }

    public int run(int shop, boolean is) {
        int finding = site.holds.findingOf(shop, SHOP);
        return finding == FINE ? turn(site.holds.told, shop, is) : found(finding);
    }

    public int shut(int pipe, boolean open) {
        int finding = site.holds.findingOf(pipe, PIPE);
        return finding == FINE ? turn(site.holds.open, pipe, open) : found(finding);
    }

    public int outside(int v) {
        if (!isWithin(v, 0, 9)) {
            return found(BEYOND);
        }
        int before = site.outside;
        site.outside = v;
        return before;
    }

    public int cold(int shop, int v) {
        if (!isWithin(v, 0, MOST_WARMTH)) {
            return found(BEYOND);
        }
        int finding = site.holds.findingOf(shop, SHOP);
        return finding == FINE ? orNone(site.firstCold(shop, v)) : found(finding);
    }

    // ---- men

    public int man(int shop, int state) {
        if (!isWithin(state, 0, 9999)) {
            return found(BEYOND);
        }
        int finding = site.holds.findingOf(shop, SHOP);
        if (finding != FINE) {
            return found(finding);
        }
        if (site.men.size >= MOST_MEN) {
            return found(FULL);
        }
        return site.men.add(shop, state / 100, state % 100);
    }

    public int where(int man, int what) {
        if (!site.men.has(man) || !isWithin(what, 0, 3)) {
            return found(BEYOND);
        }
        return site.men.number(man, what);
    }

    public int go(int man, int shop) {
        if (!site.men.has(man)) {
            return found(BEYOND);
        }
        int finding = site.holds.findingOf(shop, SHOP);
        if (finding != FINE) {
            return found(finding);
        }
        int from = site.men.shops[man];
        if (from == NOTHING) {
            return found(STATE);
        }
        if (!isIn(site.reachedFrom(from, MOST_SHOPS), shop)) {
            return found(NONE);
        }
        site.men.shops[man] = shop;
        return asNumber(from != shop);
    }

    public int hear(int man, int v) {
        if (!site.men.has(man) || !isWithin(v, -20, 20)) {
            return found(BEYOND);
        }
        if (site.men.shops[man] == NOTHING) {
            return found(STATE);
        }
        int will = Math.max(0, Math.min(99, site.men.wills[man] + v));
        site.men.wills[man] = will;
        return will;
    }

    public int stay(int man) {
        if (!site.men.has(man)) {
            return found(BEYOND);
        }
        if (site.men.shops[man] == NOTHING) {
            return found(STATE);
        }
        return orNone(site.firstLeave(man));
    }

    public int pass(int kitchen, int n) {
        if (!isWithin(n, 0, 9)) {
            return found(BEYOND);
        }
        int finding = site.holds.findingOf(kitchen, KITCHEN);
        if (finding != FINE) {
            return found(finding);
        }
        if (site.texts.bars(site.clauseAt(PASS, kitchen))) {
            return found(STATE);
        }
        return site.holds.letsIn(kitchen, n) ? site.holds.addMeals(kitchen, n) : found(SIZE);
    }

    public int food(int shop) {
        int finding = site.holds.findingOf(shop, SHOP);
        if (finding != FINE) {
            return found(finding);
        }
        int reached = site.reachedFrom(shop, MOST_SHOPS);
        int eaters = site.men.inShops(reached);
        return eaters == 0 ? found(NONE) : site.holds.mealsIn(reached) / eaters;
    }

    // ---- gates

    public int reach(int shop) {
        int finding = site.holds.findingOf(shop, SHOP);
        return finding == FINE ? site.reachedFrom(shop, MOST_SHOPS) : found(finding);
    }

    public int whistle(int shop, int gates) {
        if (!isWithin(gates, 0, 9)) {
            return found(BEYOND);
        }
        int finding = site.holds.findingOf(shop, SHOP);
        return finding == FINE ? site.men.inShops(site.reachedFrom(shop, gates)) : found(finding);
    }

    public int force(int gate) {
        int finding = site.holds.findingOf(gate, GATE);
        return finding == FINE ? site.forceAt(gate) : found(finding);
    }

    public int take(int gate) {
        int finding = site.holds.findingOf(gate, GATE);
        if (finding != FINE) {
            return found(finding);
        }
        if (site.holds.held[gate] == 1 || site.texts.bars(site.clauseAt(TAKE, site.holds.firsts[gate]))) {
            return found(STATE);
        }
        int takers = site.forceAt(gate);
        if (takers == 0 || takers < site.holds.guards[gate]) {
            return found(NONE);
        }
        site.holds.held[gate] = 1;
        site.holds.guards[gate] = 0;
        return takers;
    }

    public int guard(int gate, int n) {
        if (!isWithin(n, 0, 99)) {
            return found(BEYOND);
        }
        int finding = site.holds.findingOf(gate, GATE);
        if (finding != FINE) {
            return found(finding);
        }
        if (site.holds.held[gate] == 1 && n <= site.forceAt(gate)) {
            return 0;
        }
        site.holds.held[gate] = 0;
        site.holds.guards[gate] = n;
        return 1;
    }

    // ---- parts

    public int work(int needs) {
        if (!isWithin(needs, 0, 999999)) {
            return found(BEYOND);
        }
        return site.works.size >= MOST_WORKS ? found(FULL) : site.works.add(needs);
    }

    public int stock(int s) {
        if (!isWithin(s, 0, SHEETS - 1)) {
            return found(BEYOND);
        }
        Sheet sheet = sheets[s];
        if (sheet.isMissing()) {
            return found(MISSING);
        }
        if (sheet.size != PARTS) {
            return found(SIZE);
        }
        for (int p = 0; p < PARTS; p++) {
            int number = sheet.numbers[p];
            if (number != STOCK_STAYS && !isWithin(number, 0, MOST_STOCK)) {
                return found(BEYOND);
            }
        }
        return site.works.restock(sheet.numbers);
    }

    public int part(int part) {
        return isWithin(part, 0, PARTS - 1) ? site.works.stocks[part] : found(BEYOND);
    }

    public int last(int work, int what) {
        if (!isWithin(work, 0, site.works.size - 1) || !isWithin(what, 0, 1)) {
            return found(BEYOND);
        }
        int hours = site.works.hoursTillItStands(work, site.madeBy(site.makers()));
        if (hours == NOTHING) {
            return found(NONE);
        }
        return what == 0 ? site.hour + hours : site.works.lacks[work];
    }

    public int least(int works) {
        if (works < 1 || works >= 1 << site.works.size) {
            return found(BEYOND);
        }
        return orNone(site.leastShops(works));
    }

    // ---- texts

    public int feed(int bytes, int n) {
        if (!isWithin(n, 1, 4)) {
            return found(BEYOND);
        }
        return tape.size + n > MOST_BYTES ? found(FULL) : tape.add(bytes, n);
    }

    public int text(int judge, int from, int to) {
        if (!isWithin(judge, 0, JUDGES - 1) || !isWithin(from, 0, LAST_HOUR) || !isWithin(to, from, LAST_HOUR)) {
            return found(BEYOND);
        }
        if (site.texts.size >= MOST_TEXTS) {
            return found(FULL);
        }
        if (!tape.readText(site.texts)) {
            return -1 - tape.place;
        }
        tape.size = 0;
        return site.texts.add(judge, from, to, site.hour);
    }

    public int wipe() {
        int before = tape.size;
        tape.size = 0;
        return before;
    }

    public int shares(int judge) {
        if (!isWithin(judge, 0, JUDGES - 1)) {
            return found(BEYOND);
        }
        if (site.texts.shareHours[judge] != NOTHING) {
            return found(STATE);
        }
        return site.texts.unseat(judge, site.hour);
    }

    public int between(int text) {
        return isWithin(text, 0, site.texts.size - 1) ? site.texts.hoursInForce(text, site.hour) : found(BEYOND);
    }

    public int barred(int word, int shop) {
        if (!isWithin(word, 0, WORDS - 1)) {
            return found(BEYOND);
        }
        int finding = site.holds.findingOf(shop, SHOP);
        return finding == FINE ? asNumber(site.texts.bars(site.clauseAt(word, shop))) : found(finding);
    }

    public int why(int word, int shop) {
        if (!isWithin(word, 0, WORDS - 1)) {
            return found(BEYOND);
        }
        int finding = site.holds.findingOf(shop, SHOP);
        if (finding != FINE) {
            return found(finding);
        }
        int clause = site.clauseAt(word, shop);
        return clause == NOTHING ? found(NONE) : 10 * (clause / MOST_CLAUSES) + clause % MOST_CLAUSES;
    }

    // ---- rumours

    public int rumour(int gate, int credit) {
        if (!isWithin(credit, 1, 9)) {
            return found(BEYOND);
        }
        int finding = site.holds.findingOf(gate, GATE);
        if (finding != FINE) {
            return found(finding);
        }
        return site.rumours.size >= MOST_RUMOURS ? found(FULL) : site.rumours.add(gate, credit);
    }

    public int out(int rumour, boolean is) {
        if (!isWithin(rumour, 0, site.rumours.size - 1)) {
            return found(BEYOND);
        }
        return turn(site.rumours.outs, rumour, is);
    }

    public int squads(int n) {
        if (!isWithin(n, 0, 9)) {
            return found(BEYOND);
        }
        int before = site.rumours.squads;
        site.rumours.squads = n;
        return before;
    }

    public int believe() {
        site.rumours.setSquads(site.rumours.thoseOut(), site.holds);
        return site.holds.guardBySquads(site.rumours.squadsAt);
    }

    public int feint(int gate) {
        int finding = site.holds.findingOf(gate, GATE);
        if (finding != FINE) {
            return found(finding);
        }
        if (site.holds.held[gate] == 1) {
            return found(STATE);
        }
        return orNone(site.rumours.leastFor(gate, site.forceAt(gate), site.holds));
    }

    // ---- terms, lists

    public int copyTerm(int term, int cost, int worth) {
        if (!isWithin(cost, 0, 99) || !isWithin(worth, 0, 99)) {
            return found(BEYOND);
        }
        int finding = site.holds.findingOf(term, TERM);
        if (finding != FINE) {
            return found(finding);
        }
        site.holds.costs[term] = cost;
        site.holds.worths[term] = worth;
        return asNumber(site.holds.isUnlike(term));
    }

    public int unlike() {
        return site.holds.unlikeTerms();
    }

    public int sign(int terms, int ask, int limit) {
        if (!site.holds.areTerms(terms) || !isWithin(ask, 0, 999) || !isWithin(limit, 0, 999)) {
            return found(BEYOND);
        }
        if (Integer.bitCount(terms) > MOST_TERMS_TO_SIGN) {
            return found(SIZE);
        }
        return orNone(site.holds.termsToSign(terms, ask, limit));
    }

    public int list(int k, int names, int foreman) {
        if (!isWithin(k, 0, LISTS - 1) || !isWithin(names, 0, 999) || !isWithin(foreman, 0, names)) {
            return found(BEYOND);
        }
        site.lists.names[k] = names;
        site.lists.asked[k] = foreman;
        return 1;
    }

    public int want(int what) {
        if (!isWithin(what, 0, 1)) {
            return found(BEYOND);
        }
        return what == 0 ? site.lists.leastWho() : site.lists.mostWho();
    }

    // ---- moves

    public int move(int side, int k, int will, int orders) {
        if (!isWithin(side, 0, SIDES - 1) || !isWithin(k, 0, MOVES - 1)) {
            return found(BEYOND);
        }
        if (!isWithin(will, -9, 9) || !isWithin(orders, -9, 9)) {
            return found(BEYOND);
        }
        site.game.wills[side * MOVES + k] = will;
        site.game.orders[side * MOVES + k] = orders;
        return 1;
    }

    public int play(int will, int orders, int n) {
        return areGame(will, orders, n) ? site.game.playFreely(will, orders, n) : found(BEYOND);
    }

    public int best(int will, int orders, int n) {
        return areGame(will, orders, n) ? site.game.bestFirstMove(will, orders, n) : found(BEYOND);
    }

    public int judge(int s, int will, int orders) {
        if (!isWithin(s, 0, SHEETS - 1) || !areGame(will, orders, 1)) {
            return found(BEYOND);
        }
        Sheet sheet = sheets[s];
        if (sheet.isMissing()) {
            return found(MISSING);
        }
        if (!isWithin(sheet.size, 1, MOST_STEPS)) {
            return found(SIZE);
        }
        for (int i = 0; i < sheet.size; i++) {
            if (!isWithin(sheet.numbers[i], 0, MOVES - 1)) {
                return found(BEYOND);
            }
        }
        return site.game.playAsPlanned(sheet.numbers, sheet.size, will, orders);
    }

    // ---- hours, the book

    public int tick(int n) {
        if (!isWithin(n, 1, 99)) {
            return found(BEYOND);
        }
        if (site.hour + n > LAST_HOUR) {
            return found(FULL);
        }
        for (int i = 0; i < n; i++) {
            site.closeHour();
        }
        return site.hour;
    }

    public int book(int day, int what) {
        if (!isWithin(what, 0, PAGE - 1) || !isWithin(day, 0, DAYS - 1)) {
            return found(BEYOND);
        }
        return site.isClosed(day) ? site.pages[day * PAGE + what] : found(NONE);
    }

    public int check(int day, int s) {
        if (!isWithin(day, 0, DAYS - 1) || !isWithin(s, 0, SHEETS - 1)) {
            return found(BEYOND);
        }
        if (!site.isClosed(day)) {
            return found(NONE);
        }
        Sheet sheet = sheets[s];
        if (sheet.isMissing()) {
            return found(MISSING);
        }
        if (sheet.size != PAGE) {
            return found(SIZE);
        }
        int i = 0;
        while (i < PAGE && sheet.numbers[i] == site.pages[day * PAGE + i]) {
            i++;
        }
        return i;
    }

    // ---- sheets

    public int sheet(int s, int bits, int n) {
        boolean areBits = bits == 0 || bits == 8 || bits == 16 || bits == 32;
        if (!isWithin(s, 0, SHEETS - 1) || !areBits) {
            return found(BEYOND);
        }
        if (n < 0) {
            return found(SIZE);
        }
        if (n > MOST_NUMBERS) {
            return found(BEYOND);
        }
        return sheets[s].begin(bits, n);
    }

    public int write(int s, int i, int v) {
        if (!isWithin(s, 0, SHEETS - 1)) {
            return found(BEYOND);
        }
        Sheet sheet = sheets[s];
        if (sheet.isMissing()) {
            return found(MISSING);
        }
        if (!isWithin(i, 0, sheet.size - 1)) {
            return found(BEYOND);
        }
        return sheet.put(i, v);
    }

    public int copy(int s, int from, int t, int to, int n) {
        if (!isWithin(s, 0, SHEETS - 1) || !isWithin(t, 0, SHEETS - 1)) {
            return found(BEYOND);
        }
        Sheet source = sheets[s];
        Sheet goal = sheets[t];
        if (source.isMissing() || goal.isMissing()) {
            return found(MISSING);
        }
        if (source.bits != goal.bits) {
            return found(KIND);
        }
        if (!source.hasNumbers(from, n) || !goal.hasNumbers(to, n)) {
            return found(BEYOND);
        }
        System.arraycopy(source.numbers, from, goal.numbers, to, n);
        return n;
    }

    // ---- images

    public int image() {
        kept.become(site);
        isKept = true;
        return 1;
    }

    public int undo() {
        if (!isKept) {
            return found(NONE);
        }
        site.become(kept);
        return site.hour;
    }

    public int tear() {
        int before = asNumber(isKept);
        isKept = false;
        return before;
    }

    public int count(int what) {
        switch (what) {
            case 0: return site.holds.size;
            case 1: return site.holds.shops;
            case 2: return site.men.size;
            case 3: return site.men.inShops(-1);
            case 4: return site.works.size;
            case 5: return site.works.cars;
            case 6: return site.texts.size;
            case 7: return site.texts.countInForce(site.hour);
            case 8: return site.rumours.size;
            case 9: return site.hour;
            case 10: return site.holds.heldGates();
            case 11: return Integer.bitCount(site.makers());
            case 12: return tape.size;
            case 13: return site.rumours.squads;
            default: return found(BEYOND);
        }
    }

    public int status(int which) {
        if (isWithin(which, 0, FINDINGS - 1)) {
            return findings[which];
        }
        return which == -1 ? sumOf(findings) : BEYOND;
    }

    // ---- what the calls share

    private int found(int finding) {
        int which = BEYOND - finding;
        if (isWithin(which, 0, FINDINGS - 1)) {
            findings[which]++;
        }
        return finding;
    }

    private int orNone(int answer) {
        return answer == NOTHING ? found(NONE) : answer;
    }

    private static int turn(int[] row, int i, boolean is) {
        int before = row[i];
        row[i] = asNumber(is);
        return asNumber(before != row[i]);
    }

    private static boolean areGame(int will, int orders, int n) {
        return isWithin(will, 1, 99) && isWithin(orders, 1, 99) && isWithin(n, 1, MOST_STEPS);
    }

    private static boolean isWithin(int v, int low, int high) {
        return v >= low && v <= high;
    }

    private static boolean isIn(int set, int i) {
        return (set >> i & 1) == 1;
    }

    private static int asNumber(boolean is) {
        return is ? 1 : 0;
    }

    private static int sumOf(int[] row) {
        int sum = 0;
        for (int v : row) {
            sum += v;
        }
        return sum;
    }

    private static void fill(int[] row, int v) {
        for (int i = 0; i < row.length; i++) {
            row[i] = v;
        }
    }

    private static void copyRow(int[] from, int[] to) {
        System.arraycopy(from, 0, to, 0, Math.min(from.length, to.length));
    }

    /** The subset of a set that is the next greater one as bits; behind the set itself comes the empty one. */
    private static int nextSubset(int subset, int set) {
        return subset - set & set;
    }

    /** Sections 1 to 7 and the lists: all that an image keeps. */
    private static final class Site {
        int hour = 0;
        int outside = 0;
        final Holds holds = new Holds();
        final Men men = new Men();
        final Works works = new Works();
        final Texts texts = new Texts();
        final Rumours rumours = new Rumours();
        final Lists lists = new Lists();
        final Game game = new Game();
        final int[] pages = new int[DAYS * PAGE];
        private final int[] facts = new int[WORDS];
        private final int[] made = new int[PARTS];

        void become(Site other) {
            hour = other.hour;
            outside = other.outside;
            holds.become(other.holds);
            men.become(other.men);
            works.become(other.works);
            texts.become(other.texts);
            rumours.become(other.rumours);
            lists.become(other.lists);
            game.become(other.game);
            copyRow(other.pages, pages);
        }

        int reachedFrom(int shop, int gates) {
            int reached = 1 << shop;
            for (int i = 0; i < gates; i++) {
                reached = holds.oneGateFurther(reached);
            }
            return reached;
        }

        int forceAt(int gate) {
            int set = reachedFrom(holds.firsts[gate], MOST_SHOPS);
            if (holds.seconds[gate] != STREET) {
                set |= reachedFrom(holds.seconds[gate], MOST_SHOPS);
            }
            return men.inShops(set);
        }

        int clauseAt(int word, int shop) {
            facts[0] = hour / HOURS_OF_DAY;
            facts[1] = hour % HOURS_OF_DAY;
            facts[2] = men.inShops(1 << shop);
            facts[3] = holds.warmths[shop];
            return texts.clauseFor(word, hour, facts);
        }

        boolean makes(int shop) {
            return holds.kinds[shop] == SHOP
                && holds.told[shop] == 1
                && holds.flooded[shop] == 0
                && men.inShops(1 << shop) == 0
                && !texts.bars(clauseAt(MAKE, shop));
        }

        int makers() {
            int set = 0;
            for (int h = 0; h < holds.size; h++) {
                if (makes(h)) {
                    set |= 1 << h;
                }
            }
            return set;
        }

        /** What SHOPS of a set make of each PART in an HOUR; the row is used again by the next call. */
        int[] madeBy(int shops) {
            fill(made, 0);
            for (int h = 0; h < holds.size; h++) {
                if (isIn(shops, h)) {
                    made[holds.firsts[h]] += holds.seconds[h];
                }
            }
            return made;
        }

        int leastShops(int wanted) {
            int makers = makers();
            int best = NOTHING;
            int subset = 0;
            int subsets = 1 << Integer.bitCount(makers);
            for (int i = 0; i < subsets; i++) {
                boolean isFewer = best == NOTHING || Integer.bitCount(subset) < Integer.bitCount(best);
                if (isFewer && works.wouldAllStand(wanted, madeBy(makers & ~subset))) {
                    best = subset;
                }
                subset = nextSubset(subset, makers);
            }
            return best;
        }

        int firstCold(int shop, int v) {
            int warmth = holds.warmths[shop];
            for (int i = 0; i < LONG_SIGHT; i++) {
                warmth = holds.warmthBehind(shop, warmth, outside);
                if (warmth <= v) {
                    return hour + i;
                }
            }
            return NOTHING;
        }

        int firstLeave(int man) {
            int will = men.wills[man];
            int hunger = men.hungers[man];
            for (int h = hour; h < hour + LONG_SIGHT; h++) {
                hunger = Math.min(99, hunger + 1);
                will = Math.max(0, will - lossOfWill(man, hunger, h % HOURS_OF_DAY));
                if (will < men.debts[man] / 10) {
                    return h;
                }
            }
            return NOTHING;
        }

        private int lossOfWill(int man, int hunger, int time) {
            int shop = men.shops[man];
            return asNumber(hunger >= 12)
                + asNumber(holds.warmths[shop] < 5)
                + 2 * holds.flooded[shop]
                + asNumber(time == 0 && men.debts[man] >= 50);
        }

        boolean isClosed(int day) {
            return day < hour / HOURS_OF_DAY;
        }

        void closeHour() {
            int time = hour % HOURS_OF_DAY;
            holds.weather(outside);
            boolean isMealTime = time == 6 || time == 12 || time == 18;
            for (int m = 0; m < men.size; m++) {
                if (men.shops[m] != NOTHING) {
                    eatOrHunger(m, isMealTime);
                }
            }
            for (int m = 0; m < men.size; m++) {
                if (men.shops[m] != NOTHING) {
                    loseWill(m, time);
                }
            }
            int stood = works.closeHour(madeBy(makers()));
            if (time == HOURS_OF_DAY - 1) {
                writePage(hour / HOURS_OF_DAY, stood);
            }
            holds.openWindows();
            hour++;
        }

        private void eatOrHunger(int man, boolean isMealTime) {
            int kitchen = isMealTime ? holds.firstWithMeals(reachedFrom(men.shops[man], MOST_SHOPS)) : NOTHING;
            if (kitchen == NOTHING) {
                men.hungers[man] = Math.min(99, men.hungers[man] + 1);
                return;
            }
            holds.meals[kitchen]--;
            men.hungers[man] = 0;
            men.wills[man] = Math.min(99, men.wills[man] + 3);
        }

        private void loseWill(int man, int time) {
            int will = Math.max(0, men.wills[man] - lossOfWill(man, men.hungers[man], time));
            men.wills[man] = will;
            if (will < men.debts[man] / 10 && !texts.bars(clauseAt(LEAVE, men.shops[man]))) {
                men.shops[man] = NOTHING;
            }
        }

        private void writePage(int day, int stood) {
            int page = day * PAGE;
            pages[page] = men.inShops(-1);
            pages[page + 1] = men.willInShops();
            pages[page + 2] = holds.mealsIn(-1);
            pages[page + 3] = works.cars;
            pages[page + 4] = Integer.bitCount(stood);
            pages[page + 5] = holds.heldGates();
        }
    }

    /** Section 1: each row has a number for each HOLD; what is so or not is 1 or 0. */
    private static final class Holds {
        /** By kind: the kind that it is under. */
        private static final int[] ABOVE = {NOTHING, HOLD, SHOP, HOLD, HOLD, PIPE, HOLD};

        int size = 0;
        int shops = 0;
        final int[] kinds = new int[MOST_HOLDS];
        final int[] firsts = new int[MOST_HOLDS];
        final int[] seconds = new int[MOST_HOLDS];
        final int[] warmths = new int[MOST_HOLDS];
        final int[] flooded = new int[MOST_HOLDS];
        final int[] told = new int[MOST_HOLDS];
        final int[] meals = new int[MOST_HOLDS];
        final int[] passed = new int[MOST_HOLDS];
        final int[] held = new int[MOST_HOLDS];
        final int[] guards = new int[MOST_HOLDS];
        final int[] open = new int[MOST_HOLDS];
        final int[] costs = new int[MOST_HOLDS];
        final int[] worths = new int[MOST_HOLDS];

        void become(Holds other) {
            size = other.size;
            shops = other.shops;
            copyRow(other.kinds, kinds);
            copyRow(other.firsts, firsts);
            copyRow(other.seconds, seconds);
            copyRow(other.warmths, warmths);
            copyRow(other.flooded, flooded);
            copyRow(other.told, told);
            copyRow(other.meals, meals);
            copyRow(other.passed, passed);
            copyRow(other.held, held);
            copyRow(other.guards, guards);
            copyRow(other.open, open);
            copyRow(other.costs, costs);
            copyRow(other.worths, worths);
        }

        boolean isA(int hold, int kind) {
            int at = isWithin(hold, 0, size - 1) ? kinds[hold] : NOTHING;
            for (int i = 0; i < KINDS && at != NOTHING; i++) {
                if (at == kind) {
                    return true;
                }
                at = ABOVE[at];
            }
            return false;
        }

        int findingOf(int hold, int kind) {
            if (!isWithin(hold, 0, size - 1)) {
                return BEYOND;
            }
            return isA(hold, kind) ? FINE : KIND;
        }

        boolean allows(int kind, int numbers) {
            if (!isWithin(numbers, 0, 9999)) {
                return false;
            }
            int a = numbers / 100;
            int b = numbers % 100;
            switch (kind) {
                case HOLD: return true;
                case SHOP: return a < PARTS && b <= 9;
                case KITCHEN: return isWithin(a, 1, 9);
                case GATE: return isA(a, SHOP) && (b == STREET || b != a && isA(b, SHOP));
                case PIPE: return isA(a, SHOP) && b <= 1;
                case MAIN: return a == 0 && b <= 1;
                case TERM: return true;
                default: return false;
            }
        }

        boolean hasRoomFor(int kind) {
            boolean isShop = kind == SHOP || kind == KITCHEN;
            return size < MOST_HOLDS && (!isShop || shops < MOST_SHOPS);
        }

        int add(int kind, int a, int b) {
            int hold = size;
            size++;
            kinds[hold] = kind;
            firsts[hold] = a;
            seconds[hold] = b;
            warmths[hold] = 12;
            flooded[hold] = 0;
            told[hold] = 0;
            meals[hold] = kind == KITCHEN ? b : 0;
            passed[hold] = 0;
            held[hold] = 0;
            guards[hold] = 0;
            open[hold] = 1;
            costs[hold] = a;
            worths[hold] = b;
            shops += asNumber(isA(hold, SHOP));
            return hold;
        }

        int number(int hold, int what) {
            switch (what) {
                case 0: return kinds[hold];
                case 1: return firsts[hold];
                case 2: return seconds[hold];
                case 3: return warmths[hold];
                case 4: return flooded[hold];
                case 5: return told[hold];
                case 7: return meals[hold];
                case 8: return held[hold];
                case 9: return guards[hold];
                case 10: return open[hold];
                case 11: return costs[hold];
                default: return worths[hold];
            }
        }

        boolean hasOpenPipe(int shop, int water) {
            for (int h = 0; h < size; h++) {
                boolean leadsThere = kinds[h] == MAIN || kinds[h] == PIPE && firsts[h] == shop;
                if (leadsThere && seconds[h] == water && open[h] == 1) {
                    return true;
                }
            }
            return false;
        }

        int warmthBehind(int shop, int warmth, int outside) {
            if (hasOpenPipe(shop, 0)) {
                return Math.min(MOST_WARMTH, warmth + 1);
            }
            if (warmth == outside) {
                return warmth;
            }
            return warmth < outside ? warmth + 1 : warmth - 1;
        }

        void weather(int outside) {
            for (int h = 0; h < size; h++) {
                if (isA(h, SHOP)) {
                    warmths[h] = warmthBehind(h, warmths[h], outside);
                    if (warmths[h] <= 1 && hasOpenPipe(h, 1)) {
                        flooded[h] = 1;
                    }
                }
            }
        }

        int oneGateFurther(int reached) {
            int further = reached;
            for (int h = 0; h < size; h++) {
                if (kinds[h] == GATE && held[h] == 1 && seconds[h] != STREET) {
                    int ends = 1 << firsts[h] | 1 << seconds[h];
                    if ((reached & ends) != 0) {
                        further |= ends;
                    }
                }
            }
            return further;
        }

        boolean letsIn(int kitchen, int n) {
            return passed[kitchen] + n <= firsts[kitchen] && meals[kitchen] + n <= 99;
        }

        int addMeals(int kitchen, int n) {
            passed[kitchen] += n;
            meals[kitchen] += n;
            return meals[kitchen];
        }

        void openWindows() {
            fill(passed, 0);
        }

        int firstWithMeals(int set) {
            for (int h = 0; h < size; h++) {
                if (isIn(set, h) && kinds[h] == KITCHEN && meals[h] > 0) {
                    return h;
                }
            }
            return NOTHING;
        }

        int mealsIn(int set) {
            int sum = 0;
            for (int h = 0; h < size; h++) {
                if (isIn(set, h) && kinds[h] == KITCHEN) {
                    sum += meals[h];
                }
            }
            return sum;
        }

        int heldGates() {
            int gates = 0;
            for (int h = 0; h < size; h++) {
                gates += held[h];
            }
            return gates;
        }

        boolean isFreeGate(int hold) {
            return kinds[hold] == GATE && held[hold] == 0;
        }

        int guardBySquads(int[] squadsAt) {
            int others = 0;
            for (int h = 0; h < size; h++) {
                int due = GUARDS_OF_SQUAD * squadsAt[h];
                if (isFreeGate(h) && guards[h] != due) {
                    guards[h] = due;
                    others++;
                }
            }
            return others;
        }

        boolean isUnlike(int term) {
            return costs[term] != firsts[term] || worths[term] != seconds[term];
        }

        int unlikeTerms() {
            int set = 0;
            for (int h = 0; h < size; h++) {
                if (kinds[h] == TERM && isUnlike(h)) {
                    set |= 1 << h;
                }
            }
            return set;
        }

        boolean areTerms(int set) {
            int terms = 0;
            for (int h = 0; h < size; h++) {
                if (kinds[h] == TERM) {
                    terms |= 1 << h;
                }
            }
            return (set & ~terms) == 0;
        }

        int termsToSign(int terms, int ask, int limit) {
            int best = NOTHING;
            int subset = 0;
            int subsets = 1 << Integer.bitCount(terms);
            for (int i = 0; i < subsets; i++) {
                if (isSigned(subset, ask, limit) && (best == NOTHING || isDearer(best, subset))) {
                    best = subset;
                }
                subset = nextSubset(subset, terms);
            }
            return best;
        }

        private boolean isSigned(int set, int ask, int limit) {
            return sumIn(set, seconds) >= ask
                && sumIn(set, worths) >= ask
                && sumIn(set, firsts) <= limit
                && sumIn(set, costs) <= limit;
        }

        private boolean isDearer(int set, int other) {
            int more = sumIn(set, firsts) - sumIn(other, firsts);
            return more > 0 || more == 0 && Integer.bitCount(set) > Integer.bitCount(other);
        }

        private int sumIn(int set, int[] row) {
            int sum = 0;
            for (int h = 0; h < size; h++) {
                if (isIn(set, h)) {
                    sum += row[h];
                }
            }
            return sum;
        }
    }

    /** Section 2: each row has a number for each MAN; the SHOP of one who is away is NOTHING. */
    private static final class Men {
        int size = 0;
        final int[] shops = new int[MOST_MEN];
        final int[] wills = new int[MOST_MEN];
        final int[] debts = new int[MOST_MEN];
        final int[] hungers = new int[MOST_MEN];

        void become(Men other) {
            size = other.size;
            copyRow(other.shops, shops);
            copyRow(other.wills, wills);
            copyRow(other.debts, debts);
            copyRow(other.hungers, hungers);
        }

        boolean has(int man) {
            return isWithin(man, 0, size - 1);
        }

        int add(int shop, int will, int debt) {
            int man = size;
            size++;
            shops[man] = shop;
            wills[man] = will;
            debts[man] = debt;
            hungers[man] = 0;
            return man;
        }

        int number(int man, int what) {
            switch (what) {
                case 0: return shops[man];
                case 1: return wills[man];
                case 2: return debts[man];
                default: return hungers[man];
            }
        }

        int inShops(int set) {
            int sum = 0;
            for (int m = 0; m < size; m++) {
                sum += asNumber(shops[m] != NOTHING && isIn(set, shops[m]));
            }
            return sum;
        }

        int willInShops() {
            int sum = 0;
            for (int m = 0; m < size; m++) {
                sum += shops[m] == NOTHING ? 0 : wills[m];
            }
            return sum;
        }
    }

    /** Section 3: STOCK, and WORKS with what they NEED. */
    private static final class Works {
        int size = 0;
        int cars = 0;
        final int[] stocks = new int[PARTS];
        final int[] needs = new int[MOST_WORKS * PARTS];
        /** By WORKS: the least PART that was lacking when it stood latest. */
        final int[] lacks = new int[MOST_WORKS];
        private final int[] foreseen = new int[PARTS];

        void become(Works other) {
            size = other.size;
            cars = other.cars;
            copyRow(other.stocks, stocks);
            copyRow(other.needs, needs);
        }

        int add(int digits) {
            int work = size;
            size++;
            int rest = digits;
            for (int p = PARTS - 1; p >= 0; p--) {
                needs[work * PARTS + p] = rest % 10;
                rest /= 10;
            }
            return work;
        }

        int restock(int[] numbers) {
            int others = 0;
            for (int p = 0; p < PARTS; p++) {
                if (numbers[p] != STOCK_STAYS && numbers[p] != stocks[p]) {
                    stocks[p] = numbers[p];
                    others++;
                }
            }
            return others;
        }

        /** Answers the set of WORKS that stood. */
        int closeHour(int[] made) {
            int stood = goThroughHour(stocks, made);
            cars += size - Integer.bitCount(stood);
            return stood;
        }

        private int goThroughHour(int[] row, int[] made) {
            for (int p = 0; p < PARTS; p++) {
                row[p] = Math.min(MOST_STOCK, row[p] + made[p]);
            }
            int stood = 0;
            for (int w = 0; w < size; w++) {
                int lack = lackOf(w, row);
                if (lack == NOTHING) {
                    takeNeed(w, row);
                } else {
                    lacks[w] = lack;
                    stood |= 1 << w;
                }
            }
            return stood;
        }

        private int lackOf(int work, int[] row) {
            for (int p = 0; p < PARTS; p++) {
                if (row[p] < needs[work * PARTS + p]) {
                    return p;
                }
            }
            return NOTHING;
        }

        private void takeNeed(int work, int[] row) {
            for (int p = 0; p < PARTS; p++) {
                row[p] -= needs[work * PARTS + p];
            }
        }

        int hoursTillItStands(int work, int[] made) {
            copyRow(stocks, foreseen);
            for (int i = 0; i < SHORT_SIGHT; i++) {
                if (isIn(goThroughHour(foreseen, made), work)) {
                    return i;
                }
            }
            return NOTHING;
        }

        boolean wouldAllStand(int wanted, int[] made) {
            copyRow(stocks, foreseen);
            int left = wanted;
            for (int i = 0; i < SHORT_SIGHT && left != 0; i++) {
                left &= ~goThroughHour(foreseen, made);
            }
            return left == 0;
        }
    }

    /**
     * Section 5: TEXTS as they were read. CLAUSE c of TEXT t is number t * MOST_CLAUSES + c in rows of CLAUSES, TEST i
     * of CLAUSE n is number n * MOST_TESTS + i in rows of TESTS.
     */
    private static final class Texts {
        int size = 0;
        final int[] judges = new int[MOST_TEXTS];
        final int[] starts = new int[MOST_TEXTS];
        final int[] ends = new int[MOST_TEXTS];
        final int[] toldHours = new int[MOST_TEXTS];
        final int[] clauses = new int[MOST_TEXTS];
        final int[] saysBar = new int[MOST_TEXTS * MOST_CLAUSES];
        final int[] words = new int[MOST_TEXTS * MOST_CLAUSES];
        final int[] tests = new int[MOST_TEXTS * MOST_CLAUSES];
        final int[] facts = new int[MOST_TEXTS * MOST_CLAUSES * MOST_TESTS];
        /** By TEST: -1 for less, 0 for like, 1 for more. */
        final int[] orders = new int[MOST_TEXTS * MOST_CLAUSES * MOST_TESTS];
        final int[] numbers = new int[MOST_TEXTS * MOST_CLAUSES * MOST_TESTS];
        /** By JUDGE: the HOUR in which SHARES were told, or NOTHING. */
        final int[] shareHours = {NOTHING, NOTHING, NOTHING, NOTHING};

        void become(Texts other) {
            size = other.size;
            copyRow(other.judges, judges);
            copyRow(other.starts, starts);
            copyRow(other.ends, ends);
            copyRow(other.toldHours, toldHours);
            copyRow(other.clauses, clauses);
            copyRow(other.saysBar, saysBar);
            copyRow(other.words, words);
            copyRow(other.tests, tests);
            copyRow(other.facts, facts);
            copyRow(other.orders, orders);
            copyRow(other.numbers, numbers);
            copyRow(other.shareHours, shareHours);
        }

        /** The CLAUSES of the new TEXT were put into its rows by THE TAPE. */
        int add(int judge, int from, int to, int hour) {
            int text = size;
            size++;
            judges[text] = judge;
            starts[text] = from;
            ends[text] = to;
            toldHours[text] = hour;
            return text;
        }

        boolean isInForce(int text, int hour) {
            return shareHours[judges[text]] == NOTHING && starts[text] <= hour && hour <= ends[text];
        }

        int countInForce(int hour) {
            int sum = 0;
            for (int t = 0; t < size; t++) {
                sum += asNumber(isInForce(t, hour));
            }
            return sum;
        }

        int unseat(int judge, int hour) {
            int before = countInForce(hour);
            shareHours[judge] = hour;
            return before - countInForce(hour);
        }

        int hoursInForce(int text, int hour) {
            int first = Math.max(starts[text], toldHours[text]);
            int end = Math.min(ends[text] + 1, hour);
            int shareHour = shareHours[judges[text]];
            if (shareHour != NOTHING) {
                end = Math.min(end, shareHour);
            }
            return Math.max(0, end - first);
        }

        int clauseFor(int word, int hour, int[] factsNow) {
            for (int t = size - 1; t >= 0; t--) {
                int after = isInForce(t, hour) ? clauses[t] : 0;
                for (int c = 0; c < after; c++) {
                    int clause = t * MOST_CLAUSES + c;
                    if (words[clause] == word && isSo(clause, factsNow)) {
                        return clause;
                    }
                }
            }
            return NOTHING;
        }

        private boolean isSo(int clause, int[] factsNow) {
            for (int i = 0; i < tests[clause]; i++) {
                int test = clause * MOST_TESTS + i;
                int more = factsNow[facts[test]] - numbers[test];
                int order = more == 0 ? 0 : more < 0 ? -1 : 1;
                if (order != orders[test]) {
                    return false;
                }
            }
            return true;
        }

        boolean bars(int clause) {
            return clause != NOTHING && saysBar[clause] == 1;
        }
    }

    /** THE TAPE, and the reading of a TEXT from it. */
    private static final class Tape {
        int size = 0;
        /** The byte that is read next; behind a reading that failed: the FAULT. */
        int place = 0;
        private final int[] bytes = new int[MOST_BYTES];

        int add(int number, int n) {
            for (int i = n - 1; i >= 0; i--) {
                bytes[size] = number >> 8 * i & 255;
                size++;
            }
            return size;
        }

        /** Reads CLAUSES into the rows behind the latest TEXT, where nobody sees them before it is added. */
        boolean readText(Texts texts) {
            place = 0;
            for (int c = 0; c < MOST_CLAUSES; c++) {
                int clause = texts.size * MOST_CLAUSES + c;
                if (c > 0 && !sees(';') || !readWords(texts, clause)) {
                    return false;
                }
                if (sees(' ') && !(spells("when ") && readTests(texts, clause))) {
                    return false;
                }
                if (place == size) {
                    texts.clauses[texts.size] = c + 1;
                    return true;
                }
            }
            return false;
        }

        private boolean readWords(Texts texts, int clause) {
            int says = readOneOf("may", "bar", "", "");
            if (says == NOTHING || !sees(' ')) {
                return false;
            }
            int word = readOneOf("leave", "pass", "take", "make");
            texts.saysBar[clause] = says;
            texts.words[clause] = word;
            texts.tests[clause] = 0;
            return word != NOTHING;
        }

        private boolean readTests(Texts texts, int clause) {
            for (int i = 0; i < MOST_TESTS; i++) {
                if (i > 0 && !sees('&')) {
                    return true;
                }
                if (!readTest(texts, clause * MOST_TESTS + i)) {
                    return false;
                }
                texts.tests[clause] = i + 1;
            }
            return true;
        }

        private boolean readTest(Texts texts, int test) {
            int fact = readOneOf("day", "hour", "men", "warm");
            if (fact == NOTHING) {
                return false;
            }
            int order = readOneOf("<", "=", ">", "");
            if (order == NOTHING) {
                return false;
            }
            int number = readNumber();
            texts.facts[test] = fact;
            texts.orders[test] = order - 1;
            texts.numbers[test] = number;
            return number != NOTHING;
        }

        private int readNumber() {
            int number = NOTHING;
            for (int i = 0; i < 3 && place < size && isWithin(bytes[place], '0', '9'); i++) {
                number = 10 * Math.max(0, number) + bytes[place] - '0';
                place++;
            }
            return number;
        }

        /** No two words that are asked for together begin alike, so the first letter tells which one it must be. */
        private int readOneOf(String first, String second, String third, String fourth) {
            if (begins(first)) {
                return spells(first) ? 0 : NOTHING;
            }
            if (begins(second)) {
                return spells(second) ? 1 : NOTHING;
            }
            if (begins(third)) {
                return spells(third) ? 2 : NOTHING;
            }
            return begins(fourth) && spells(fourth) ? 3 : NOTHING;
        }

        private boolean begins(String word) {
            return !word.isEmpty() && place < size && bytes[place] == word.charAt(0);
        }

        private boolean spells(String word) {
            for (int i = 0; i < word.length(); i++) {
                if (!sees(word.charAt(i))) {
                    return false;
                }
            }
            return true;
        }

        private boolean sees(char sign) {
            if (place >= size || bytes[place] != sign) {
                return false;
            }
            place++;
            return true;
        }
    }

    /** Section 6. */
    private static final class Rumours {
        int size = 0;
        int squads = 0;
        final int[] gates = new int[MOST_RUMOURS];
        final int[] credits = new int[MOST_RUMOURS];
        final int[] outs = new int[MOST_RUMOURS];
        /** By HOLD: how many SQUADS setSquads() set there. */
        final int[] squadsAt = new int[MOST_HOLDS];
        private final int[] creditsAt = new int[MOST_HOLDS];

        void become(Rumours other) {
            size = other.size;
            squads = other.squads;
            copyRow(other.gates, gates);
            copyRow(other.credits, credits);
            copyRow(other.outs, outs);
        }

        int add(int gate, int credit) {
            int rumour = size;
            size++;
            gates[rumour] = gate;
            credits[rumour] = credit;
            outs[rumour] = 0;
            return rumour;
        }

        int thoseOut() {
            int set = 0;
            for (int r = 0; r < size; r++) {
                set |= outs[r] << r;
            }
            return set;
        }

        void setSquads(int rumoursOut, Holds holds) {
            fill(squadsAt, 0);
            fill(creditsAt, 0);
            for (int r = 0; r < size; r++) {
                if (isIn(rumoursOut, r) && holds.isFreeGate(gates[r])) {
                    creditsAt[gates[r]] += credits[r];
                }
            }
            for (int i = 0; i < squads; i++) {
                int gate = mostBelieved();
                if (gate != NOTHING) {
                    squadsAt[gate]++;
                }
            }
        }

        private int mostBelieved() {
            int most = NOTHING;
            for (int g = 0; g < MOST_HOLDS; g++) {
                if (creditsAt[g] > 0 && (most == NOTHING || isMoreBelieved(g, most))) {
                    most = g;
                }
            }
            return most;
        }

        private boolean isMoreBelieved(int gate, int other) {
            return creditsAt[gate] * (squadsAt[other] + 1) > creditsAt[other] * (squadsAt[gate] + 1);
        }

        int leastFor(int gate, int takers, Holds holds) {
            int out = thoseOut();
            int others = (1 << size) - 1 & ~out;
            int best = NOTHING;
            int subset = 0;
            int subsets = 1 << Integer.bitCount(others);
            for (int i = 0; i < subsets && takers > 0; i++) {
                if (best == NOTHING || Integer.bitCount(subset) < Integer.bitCount(best)) {
                    setSquads(out | subset, holds);
                    best = takers >= GUARDS_OF_SQUAD * squadsAt[gate] ? subset : best;
                }
                subset = nextSubset(subset, others);
            }
            return best;
        }
    }

    /** The lists of those who want to work. */
    private static final class Lists {
        final int[] names = new int[LISTS];
        final int[] asked = new int[LISTS];

        void become(Lists other) {
            copyRow(other.names, names);
            copyRow(other.asked, asked);
        }

        int leastWho() {
            int greatest = 0;
            for (int k = 0; k < LISTS; k++) {
                greatest = Math.max(greatest, names[k] - asked[k]);
            }
            return greatest;
        }

        int mostWho() {
            return Math.min(MOST_NAMES_TOGETHER, sumOf(names));
        }
    }

    /** Section 7: what move k of a side does stands at side * MOVES + k. */
    private static final class Game {
        private static final int ANY = -1;

        final int[] wills = new int[SIDES * MOVES];
        final int[] orders = new int[SIDES * MOVES];
        /** By step: the move that the men make, or ANY. */
        private final int[] plan = new int[MOST_STEPS];
        private int steps = 0;

        void become(Game other) {
            copyRow(other.wills, wills);
            copyRow(other.orders, orders);
        }

        int playFreely(int will, int order, int n) {
            fill(plan, ANY);
            steps = n;
            return behindSteps(0, will, order, LOST, WON);
        }

        int bestFirstMove(int will, int order, int n) {
            int due = playFreely(will, order, n);
            for (int k = 0; k < MOVES - 1; k++) {
                plan[0] = k;
                if (behindSteps(0, will, order, LOST, WON) == due) {
                    return k;
                }
            }
            return MOVES - 1;
        }

        int playAsPlanned(int[] moves, int n, int will, int order) {
            copyRow(moves, plan);
            steps = n;
            return behindSteps(0, will, order, LOST, WON);
        }

        /**
         * What it comes to from a step on, the men to move. Once it is clear that the answer is not between low and
         * high, where alone it could count for those who asked, any answer on that side will do.
         */
        private int behindSteps(int step, int will, int order, int low, int high) {
            if (step >= steps || step >= MOST_STEPS) {
                return OPEN;
            }
            int most = LOST;
            for (int k = 0; k < MOVES && most < high; k++) {
                if (plan[step] == ANY || plan[step] == k) {
                    int floor = Math.max(low, most);
                    most = Math.max(most, behindMen(step, will + wills[k], order + orders[k], floor, high));
                }
            }
            return most;
        }

        private int behindMen(int step, int will, int order, int low, int high) {
            if (will <= 0) {
                return LOST;
            }
            if (order <= 0) {
                return WON;
            }
            int least = WON;
            for (int k = MOVES; k < SIDES * MOVES && least > low; k++) {
                int top = Math.min(high, least);
                least = Math.min(least, behindCompany(step, will + wills[k], order + orders[k], low, top));
            }
            return least;
        }

        private int behindCompany(int step, int will, int order, int low, int high) {
            if (will <= 0) {
                return LOST;
            }
            return order <= 0 ? WON : behindSteps(step + 1, will, order, low, high);
        }
    }

    /** Section 8: a row of numbers; bits 0 says that it is MISSING. */
    private static final class Sheet {
        int bits = 0;
        int size = 0;
        final int[] numbers = new int[MOST_NUMBERS];

        boolean isMissing() {
            return bits == 0;
        }

        int begin(int newBits, int n) {
            bits = newBits;
            size = newBits == 0 ? 0 : n;
            fill(numbers, 0);
            return size;
        }

        int put(int i, int v) {
            int before = numbers[i];
            switch (bits) {
                case 8:
                    numbers[i] = (byte) v;
                    break;
                case 16:
                    numbers[i] = (short) v;
                    break;
                default:
                    numbers[i] = v;
                    break;
            }
            return before;
        }

        boolean hasNumbers(int from, int n) {
            return from >= 0 && n >= 0 && from <= size && n <= size - from;
        }
    }
}
