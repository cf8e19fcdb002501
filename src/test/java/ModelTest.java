import java.lang.reflect.Method;
import java.lang.reflect.Modifier;
import java.util.ArrayList;
import java.util.Arrays;
import java.util.Collections;
import java.util.Comparator;
import java.util.HashMap;
import java.util.List;
import java.util.Map;
import java.util.Random;

/** Random runs of at most 512 calls: each answer is that of the plain Model, and no call throws. */
public final class ModelTest {
    private static final int RUNS = 1500;
    private static final int CALLS = 512;
    private static final int[] ODD = {
        -1, 0, 1, 2, 5, 6, 7, 8, 9, 10, 12, 13, 20, 21, 24, 32, 99, 100, 999, 1000, 9999, 10000, 960, -20, -21,
        Integer.MIN_VALUE, Integer.MAX_VALUE,
    };

    private final Random random;
    private final SitDown x = new SitDown();
    private final Model model = new Model();
    private final List<String> told = new ArrayList<>();
    private final Map<String, Method> face;
    private boolean isRight = true;

    private ModelTest(long seed, Map<String, Method> face) {
        this.random = new Random(seed);
        this.face = face;
    }

    public static void main(String[] args) throws Exception {
        Map<String, Method> face = new HashMap<>();
        for (Method m : SitDown.class.getDeclaredMethods()) {
            if (Modifier.isPublic(m.getModifiers())) {
                face.put(m.getName(), m);
            }
        }
        Due.is("calls of the face", face.size(), 56);
        int runs = args.length > 0 ? Integer.parseInt(args[0]) : RUNS;
        for (int run = 0; run < runs; run++) {
            ModelTest test = new ModelTest(run, face);
            test.go(run);
        }
        Due.end();
    }

    private void go(int run) throws Exception {
        boolean isWild = run % 10 == 9;
        List<String> names = new ArrayList<>(face.keySet());
        names.sort(Comparator.naturalOrder());
        if (run % 3 == 1) {
            // a few calls alone, so that each comes to many states of its own
            Collections.shuffle(names, random);
            names = new ArrayList<>(names.subList(0, 10));
            names.addAll(List.of("man", "take", "out", "rumour", "squads", "hold", "stock"));
        }
        if (!isWild) {
            begin();
        }
        if (run % 5 == 2) {
            fillUp();
        }
        while (told.size() < CALLS && isRight) {
            String name = names.get(random.nextInt(names.size()));
            if (isWild || random.nextInt(25) == 0) {
                call(name, wildArguments(name));
            } else {
                callWell(name);
            }
        }
    }

    /** Some SHOPS, GATES, PIPES and MEN, so that the rest has something to speak of. */
    private void begin() throws Exception {
        int shops = 2 + random.nextInt(4);
        for (int s = 0; s < shops; s++) {
            call("hold", random.nextInt(3) == 0 ? 2 : 1, 100 * (1 + random.nextInt(3)) + random.nextInt(7));
            call("run", s, true);
        }
        for (int i = 0; i < 4; i++) {
            call("hold", 3, 100 * random.nextInt(shops) + (random.nextInt(3) == 0 ? 99 : random.nextInt(shops)));
            call("hold", 4, 100 * random.nextInt(shops) + random.nextInt(2));
        }
        for (int i = 0; i < 4; i++) {
            call("man", random.nextInt(shops), random.nextInt(10000));
        }
        call("work", 100 * random.nextInt(4));
        call("work", 1000 * random.nextInt(5) + 10000);
    }

    /** As many as there may be of all that is counted, or nearly. */
    private void fillUp() throws Exception {
        int[] kinds = {1, 2, 3, 5, 6, 6};
        for (int i = 0; i < 60 && model.count(0) < 24; i++) {
            call("hold", kinds[below(kinds.length)], i % 2 == 0 ? numbers() : 100 + below(10));
        }
        while (isRight && model.count(0) < 24) {
            call("hold", 6, below(10000));
        }
        while (isRight && model.count(2) < 16 - below(2)) {
            call("man", ofKind(1), below(10000));
        }
        while (isRight && model.count(4) < 6) {
            call("work", below(10) * (int) Math.pow(10, below(6)));
        }
        for (int i = 0; i < 8; i++) {
            call("rumour", ofKind(3), 1 + below(9));
        }
        for (int i = 0; i < 30 && model.count(6) < 8 && told.size() < 300; i++) {
            type();
        }
    }

    private Object[] wildArguments(String name) {
        Class<?>[] types = face.get(name).getParameterTypes();
        Object[] args = new Object[types.length];
        for (int i = 0; i < types.length; i++) {
            if (types[i] == boolean.class) {
                args[i] = random.nextBoolean();
            } else {
                args[i] = random.nextBoolean() ? ODD[random.nextInt(ODD.length)] : random.nextInt(12);
            }
        }
        return args;
    }

    private int below(int n) {
        return random.nextInt(Math.max(1, n));
    }

    private void callWell(String name) throws Exception {
        int hold = below(model.count(0) + (random.nextInt(30) == 0 ? 1 : 0));
        switch (name) {
            case "hold": call(name, below(7), numbers()); break;
            case "as": call(name, hold, below(7)); break;
            case "of": call(name, hold, below(13)); break;
            case "run": call(name, ofKind(1), below(4) > 0); break;
            case "shut": call(name, ofKind(4), random.nextBoolean()); break;
            case "outside": call(name, below(10)); break;
            case "cold": call(name, ofKind(1), below(21)); break;
            case "man": call(name, ofKind(1), below(10000)); break;
            case "where": call(name, below(model.count(2)), below(4)); break;
            case "go": call(name, below(model.count(2)), ofKind(1)); break;
            case "hear": call(name, below(model.count(2)), below(43) - 21); break;
            case "stay": case "between": call(name, below(model.count(name.equals("stay") ? 2 : 6))); break;
            case "pass": call(name, ofKind(2), below(5)); break;
            case "food": case "reach": call(name, ofKind(1)); break;
            case "whistle": call(name, ofKind(1), below(5)); break;
            case "force": case "take": case "feint": call(name, ofKind(3)); break;
            case "guard": call(name, ofKind(3), below(below(3) == 0 ? 20 : 3)); break;
            case "work": call(name, below(10) * (int) Math.pow(10, below(6))); break;
            case "stock": restock(); break;
            case "part": call(name, below(6)); break;
            case "last": call(name, below(model.count(4)), below(2)); break;
            case "least": call(name, 1 + below(1 << model.count(4))); break;
            case "feed": case "text": type(); break;
            case "shares": if (below(4) == 0) call(name, below(4)); break;
            case "barred": case "why": call(name, below(4), ofKind(1)); break;
            case "rumour": call(name, ofKind(3), 1 + below(9)); break;
            case "squads": call(name, below(10)); break;
            case "want": call(name, below(2)); break;
            case "out": call(name, below(model.count(8)), random.nextBoolean()); break;
            case "copyTerm": call(name, ofKind(6), below(20), below(20)); break;
            case "sign": call(name, someTerms(), below(25), 10 + below(60)); break;
            case "list": call(name, below(6), below(999), below(300)); break;
            case "move": call(name, below(2), below(3), below(12) - 8, below(12) - 7); break;
            case "play": case "best": call(name, 1 + below(30), 1 + below(30), 1 + below(4)); break;
            case "judge": plan(); break;
            case "tick": call(name, 1 + below(below(3) == 0 ? 30 : 4)); break;
            case "book": call(name, below(1 + model.count(9) / 24), below(6)); break;
            case "check": page(); break;
            case "sheet": call(name, below(4), 8 * below(5), below(13)); break;
            case "write": call(name, below(4), below(8), random.nextInt()); break;
            case "copy": call(name, below(4), below(4), below(4), below(4), below(6)); break;
            case "undo": if (below(3) == 0) call(name); break;
            case "status": call(name, below(9) - 1); break;
            default: call(name, wildArguments(name)); break;
        }
    }

    private int numbers() {
        int shop = ofKind(1);
        switch (below(5)) {
            case 0: return 100 * shop + 99;
            case 1: return 100 * shop + ofKind(1);
            case 2: return 100 * shop + below(2);
            case 3: return below(2);
            default: return 100 * below(10) + below(20);
        }
    }

    /** Most times a HOLD of a kind, if there is one. */
    private int ofKind(int kind) {
        int hold = below(model.count(0));
        for (int i = 0; i < 24 && !model.is(hold, kind); i++) {
            hold = below(model.count(0));
        }
        return hold;
    }

    private int someTerms() {
        int set = 0;
        for (int h = 0; h < model.count(0); h++) {
            if (model.is(h, 6) && below(4) > 0) {
                set |= 1 << h;
            }
        }
        return set;
    }

    private void restock() throws Exception {
        int s = below(4);
        call("sheet", s, 16, 6);
        for (int i = 0; i < 6; i++) {
            call("write", s, i, below(3) == 0 ? -9999 : below(20) == 0 ? 10000 : below(120));
        }
        call("stock", s);
    }

    private void plan() throws Exception {
        int s = below(4);
        int n = 1 + below(5);
        call("sheet", s, 8, n);
        for (int i = 0; i < n; i++) {
            call("write", s, i, below(3));
        }
        call("judge", s, 1 + below(30), 1 + below(30));
    }

    private void page() throws Exception {
        int s = below(4);
        int day = below(model.count(9) / 24);
        call("sheet", s, 32, 6);
        for (int i = 0; i < 6; i++) {
            call("write", s, i, below(12) == 0 ? 1 : model.page(day, i));
        }
        call("check", day, s);
    }

    private String test() {
        String[] facts = {"day", "hour", "men", "warm"};
        return facts[below(4)] + "=<>".charAt(below(3)) + below(14);
    }

    private void type() throws Exception {
        String[] words = {"leave", "pass", "take", "make"};
        StringBuilder text = new StringBuilder();
        int clauses = 1 + below(below(4) == 0 ? 6 : 2);
        for (int c = 0; c < clauses; c++) {
            text.append(c > 0 ? ";" : "").append(below(2) == 0 ? "may " : "bar ").append(words[below(4)]);
            int tests = below(below(4) == 0 ? 5 : 2);
            for (int t = 0; t < tests; t++) {
                text.append(t == 0 ? " when " : "&").append(test());
            }
        }
        if (below(3) == 0) {
            text.setCharAt(below(text.length()), " &;=<>0123456789abdehklmnoprstuwy".charAt(below(33)));
        }
        if (below(5) == 0) {
            text.setLength(below(text.length()));
        }
        if (below(4) > 0) {
            call("wipe");
        }
        for (int i = 0; i < text.length(); i += 4) {
            int n = Math.min(4, text.length() - i);
            int bytes = 0;
            for (int k = 0; k < n; k++) {
                bytes = bytes << 8 | text.charAt(i + k);
            }
            call("feed", bytes, n);
        }
        int from = Math.max(0, model.count(9) - below(3) + below(3));
        call("text", below(4), from, Math.min(959, from + below(40)));
    }

    private void call(String name, Object... args) throws Exception {
        if (!isRight) {
            return;
        }
        String call = name + Arrays.toString(args);
        told.add(call);
        int got = (Integer) face.get(name).invoke(x, args);
        int due = model.answer(name, args);
        isRight = got == due;
        Due.is(isRight ? call : String.join("\n", told), got, due);
    }
}
