import java.lang.reflect.Method;
import java.util.ArrayList;
import java.util.Arrays;
import java.util.HashMap;
import java.util.List;
import java.util.Map;

/**
 * Rows of calls, each with the answer that is due, as src/test/edges has them.
 *
 * <p>A row is "name(1, 2) = answer", "3* name(1, 2) = 5..7" or "tape(signs)"; {1, 4..6} for an argument stands for
 * each of these one behind the other. A call without an answer may answer what it will, but no finding.
 */
final class Script {
    static final List<String> FINDINGS = List.of("BEYOND", "FULL", "KIND", "NONE", "STATE", "MISSING", "SIZE");
    private static final Map<String, Method> FACE = face();
    private static final int MOST_CALLS = 512;

    /** One call with its answer, as it is told: nothing, a number or a finding's name. */
    record Call(String name, Object[] args, String told, int due) {
        boolean hasDue() {
            return !told.isEmpty();
        }

        /** A number below -1000000 is no finding when it is told as a number: it may stand on a sheet. */
        boolean isRefused() {
            return FINDINGS.contains(told);
        }

        int answer(SitDown x) {
            try {
                return (Integer) FACE.get(name).invoke(x, args);
            } catch (ReflectiveOperationException e) {
                throw new IllegalStateException(this + " threw", e);
            }
        }

        @Override
        public String toString() {
            String all = Arrays.toString(args);
            return name + "(" + all.substring(1, all.length() - 1) + ")";
        }
    }

    private Script() {
    }

    private static Map<String, Method> face() {
        Map<String, Method> face = new HashMap<>();
        for (Method m : SitDown.class.getMethods()) {
            if (m.getDeclaringClass() == SitDown.class) {
                face.put(m.getName(), m);
            }
        }
        return face;
    }

    /** Goes through the calls on a new object; each one that is refused must leave all as it was. */
    static void go(String label, List<Call> calls) {
        SitDown x = new SitDown();
        for (int i = 0; i < calls.size(); i++) {
            Call call = calls.get(i);
            int got = call.answer(x);
            String told = label + ", call " + (i + 1) + " " + call;
            if (call.hasDue()) {
                Due.is(told, got, call.due());
            } else {
                boolean isFinding = got <= -1000001 && got >= -1000000 - FINDINGS.size();
                Due.is(told + " is no finding (1)", isFinding ? got : 1, 1);
            }
            if (call.isRefused()) {
                Twins.unchanged(told, calls.subList(0, i), call);
            }
        }
        Due.is(label + ": 1 if there are at most 512 calls", calls.size() <= MOST_CALLS ? 1 : 0, 1);
    }

    static List<Call> read(String row) {
        if (row.startsWith("tape(")) {
            return tape(row.substring(5, row.length() - 1));
        }
        int times = 1;
        String rest = row;
        if (row.matches("\\d+\\* .*")) {
            times = Integer.parseInt(row.substring(0, row.indexOf('*')));
            rest = row.substring(row.indexOf('*') + 2);
        }
        int close = rest.lastIndexOf(')');
        String name = rest.substring(0, rest.indexOf('('));
        String due = rest.substring(close + 1).replace("=", "").trim();
        Method method = FACE.get(name);
        if (method == null) {
            throw new IllegalArgumentException("no such call: " + row);
        }
        List<Object[]> rows = arguments(rest.substring(rest.indexOf('(') + 1, close), method.getParameterTypes());
        List<Call> calls = new ArrayList<>();
        int first = due.contains("..") ? number(due.substring(0, due.indexOf(".."))) : 0;
        for (int i = 0; i < times; i++) {
            for (Object[] args : rows) {
                int answer = due.isEmpty() ? 0 : due.contains("..") ? first + calls.size() : number(due);
                calls.add(new Call(name, args, due, answer));
            }
        }
        if (due.contains("..") && number(due.substring(due.indexOf("..") + 2)) != first + calls.size() - 1) {
            throw new IllegalArgumentException("not so many answers: " + row);
        }
        return calls;
    }

    /** The bytes of a text for THE TAPE, four at once where there are so many. */
    private static List<Call> tape(String signs) {
        List<Call> calls = new ArrayList<>();
        for (int i = 0; i < signs.length(); i += 4) {
            int n = Math.min(4, signs.length() - i);
            int bytes = 0;
            for (int k = 0; k < n; k++) {
                bytes = bytes << 8 | signs.charAt(i + k);
            }
            calls.add(new Call("feed", new Object[] {bytes, n}, "", 0));
        }
        return calls;
    }

    private static List<Object[]> arguments(String told, Class<?>[] types) {
        List<Object[]> rows = new ArrayList<>();
        rows.add(new Object[types.length]);
        int at = 0;
        for (int i = 0; i < types.length; i++) {
            boolean isSet = told.startsWith("{", at);
            int end = told.indexOf(isSet ? '}' : ',', at);
            end = end < 0 ? told.length() : end;
            String[] choices = told.substring(isSet ? at + 1 : at, end).split(", *");
            rows = withEach(rows, i, choices);
            at = end + (isSet ? 1 : 0);
            while (at < told.length() && (told.charAt(at) == ',' || told.charAt(at) == ' ')) {
                at++;
            }
        }
        if (at < told.length()) {
            throw new IllegalArgumentException("too many arguments: " + told);
        }
        return rows;
    }

    private static List<Object[]> withEach(List<Object[]> rows, int i, String[] choices) {
        List<Object[]> all = new ArrayList<>();
        for (Object[] row : rows) {
            for (String choice : choices) {
                int dots = choice.indexOf("..");
                if (choice.equals("true") || choice.equals("false")) {
                    all.add(with(row, i, Boolean.valueOf(choice)));
                } else if (dots < 0) {
                    all.add(with(row, i, number(choice)));
                } else {
                    int last = number(choice.substring(dots + 2));
                    for (int v = number(choice.substring(0, dots)); v <= last; v++) {
                        all.add(with(row, i, v));
                    }
                }
            }
        }
        return all;
    }

    private static Object[] with(Object[] row, int i, Object v) {
        Object[] other = row.clone();
        other[i] = v;
        return other;
    }

    private static int number(String told) {
        if (told.equals("MIN")) {
            return Integer.MIN_VALUE;
        }
        if (told.equals("MAX")) {
            return Integer.MAX_VALUE;
        }
        int finding = FINDINGS.indexOf(told);
        return finding >= 0 ? -1000001 - finding : Long.decode(told).intValue();
    }
}
