import java.lang.reflect.InvocationTargetException;
import java.lang.reflect.Method;
import java.util.ArrayList;
import java.util.Arrays;
import java.util.Comparator;
import java.util.List;

/** Compares long runs of calls, all kinds of them, right and wrong, with the model. */
public final class ModelTest {
    private static final int RUNS = 4000;
    private static final int CALLS = 512;
    private static final int LEAST_CHANGES = 150;
    private static final int MOST_CHANGES = 450;
    private static final int LAW_CALLS = 70;
    private static final int DEBT_CALLS = 40;
    private static final List<String> CHANGING = List.of("advance", "enact", "condition", "act", "setLimit", "toll",
            "setPrivilege", "begin", "answer", "setStandard", "presume", "concede", "addEvidence", "judge", "appeal",
            "decide", "give", "setRank", "enforce", "insolvency");

    private static long seed = 20261119;
    private static final List<Method> calls = new ArrayList<>();
    private static final List<Method> questions = new ArrayList<>();
    private static int told = 0;

    public static void main(String[] args) throws ReflectiveOperationException {
        for (Method method : Courtyard.class.getDeclaredMethods()) {
            if (java.lang.reflect.Modifier.isPublic(method.getModifiers())) {
                calls.add(method);
            }
        }
        calls.sort(Comparator.comparing(Method::getName));
        for (Method method : calls) {
            if (!CHANGING.contains(method.getName())) {
                questions.add(method);
            }
        }
        Check.same("the methods of the face", calls.size(), 44);
        for (int run = 0; run < RUNS && told == 0; run++) {
            run(run);
        }
        Check.end();
    }

    /** Changes for a while, and with the calls that are left asks what came of it. */
    private static void run(int number) throws ReflectiveOperationException {
        Courtyard real = new Courtyard();
        Model model = new Model();
        StringBuilder past = new StringBuilder();
        int changes = LEAST_CHANGES + below(MOST_CHANGES - LEAST_CHANGES);
        for (int i = 0; i < CALLS && told == 0; i++) {
            Method call = i < changes ? change(i, changes) : questions.get(below(questions.size()));
            Object[] values = arguments(call, model);
            past.append("  ").append(text(call, values));
            compare(number, real, model, call, values, past);
        }
    }

    private static Method change(int at, int changes) {
        Method call = calls.get(below(calls.size()));
        for (int tries = 0; tries < 30 && !wanted(at, changes).contains(call.getName()); tries++) {
            call = calls.get(below(calls.size()));
        }
        return below(12) == 0 ? calls.get(below(calls.size())) : call;
    }

    /** Law first, then cases, then judgments, and debts at last, so that runs come far. */
    private static List<String> wanted(int at, int changes) {
        if (at < LAW_CALLS) {
            return List.of("enact", "enact", "condition", "act");
        }
        if (at < (LAW_CALLS + changes) / 2) {
            return List.of("begin", "addEvidence", "concede", "presume", "answer", "judge", "toll", "setPrivilege",
                    "wouldHold", "isFound", "advance", "setLimit", "setStandard");
        }
        if (at < changes - DEBT_CALLS) {
            return List.of("judge", "appeal", "decide", "wouldHold", "rowBy", "isPrecedent", "act", "begin", "advance",
                    "answer");
        }
        return List.of("setRank", "give", "enforce", "insolvency", "debt", "advance");
    }

    private static Object[] arguments(Method call, Model model) {
        Class<?>[] types = call.getParameterTypes();
        Object[] values = new Object[types.length];
        for (int i = 0; i < types.length; i++) {
            if (types[i] == boolean.class) {
                values[i] = below(call.getName().equals("act") ? 4 : 2) != 0;
            } else if (types[i] == char.class) {
                values[i] = "fnfnhxhxz".charAt(below(9));
            } else {
                values[i] = number(call.getName(), i, model);
            }
        }
        return values;
    }

    private static int number(String name, int at, Model model) {
        if (below(60) == 0) {
            return new int[] {-1, -2, 8, 10, 16, 24, 100, 1000, 10000, 100000, Integer.MIN_VALUE,
                Integer.MAX_VALUE}[below(12)];
        }
        switch (name + at) {
            case "advance0": return 1 + below(below(8) == 0 ? 100 : 8);
            case "enact0": case "setRank1": return below(4);
            case "enact1": return below(below(8) == 0 ? 8 : 4);
            case "enact3": return below(2) == 0 ? -1 : below(model.sections() + 1);
            case "condition0": case "act0": case "isInForce0": return below(model.sections() + 1);
            case "condition2": return below(4);
            case "act2": case "isInForce1": case "isInForce2": return below(model.day() + 30) * below(2);
            case "setLimit0": case "begin2": case "wouldHold1": return below(below(8) == 0 ? 8 : 5);
            case "setLimit1": return below(60);
            case "toll0": case "toll1": return below(4);
            case "toll2": return below(model.day() + 20);
            case "toll3": return below(2 * model.day() + 20);
            case "begin0": case "begin1": return below(4);
            case "begin3": return 1 + below(below(2) == 0 ? 20 : 99999);
            case "begin4": return below(3);
            case "begin5": return below(model.day() + 1);
            case "answer1": return below(2) == 0 ? 255 : below(256);
            case "setStandard1": case "presume1": case "concede1": case "isFound1": case "joined1":
                return below(5);
            case "setStandard2": return new int[] {50, 75, 95, 60}[below(4)];
            case "addEvidence1": return below(3);
            case "addEvidence3": return 1 + below(99);
            case "addEvidence4": return below(10);
            case "addEvidence5": return below(3) == 0 ? -1 : below(8);
            case "isAdmitted1": return below(8);
            case "rowIssue1": case "rowHeld1": case "rowBy1": return below(5);
            case "setPrivilege0": return below(10);
            case "setPrivilege1": case "give0": case "assets0": case "insolvency0": return below(4);
            case "give1": return 1 + below(below(4) == 0 ? 99999 : 50);
            default: return below(4) == 0 ? 0 : below(Math.min(16, model.cases() + 1));
        }
    }

    private static int below(int bound) {
        seed = seed * 6364136223846793005L + 1442695040888963407L;
        return (int) ((seed >>> 33) % bound);
    }

    private static String text(Method call, Object[] values) {
        return call.getName() + Arrays.toString(values);
    }

    private static void compare(int run, Courtyard real, Model model, Method call, Object[] values,
            StringBuilder past) throws ReflectiveOperationException {
        Method twin = Model.class.getMethod(call.getName(), call.getParameterTypes());
        String got = result(call, real, values, true);
        String due = result(twin, model, values, false);
        Check.same(text(call, values), got.equals(due), true);
        if (!got.equals(due)) {
            told++;
            Check.tell("run " + run + ": " + text(call, values) + " answered " + got + ", the model " + due
                    + ", behind" + past);
        }
    }

    private static String result(Method method, Object target, Object[] values, boolean isReal)
            throws IllegalAccessException {
        try {
            return String.valueOf(method.invoke(target, values));
        } catch (InvocationTargetException e) {
            boolean isByMachine = isReal && !Check.isThrownByStatement(e.getCause());
            return (isByMachine ? "thrown by the machine: " : "throws.") + e.getCause().getClass().getName();
        }
    }
}
