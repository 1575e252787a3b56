import java.lang.reflect.InvocationTargetException;
import java.lang.reflect.Method;
import java.util.ArrayList;
import java.util.HashMap;
import java.util.List;
import java.util.Map;
import java.util.Random;
import java.util.TreeMap;

/** Runs of random calls (with fixed seeds) on the class and on the model; each answer is compared. */
public final class RandomRunTests {
    private static final int CALLS = 512;
    private static final Map<String, Method> CLASS_METHODS = methodsOf(QuotaAlmshouse.class);
    private static final Map<String, Method> MODEL_METHODS = methodsOf(Model.class);
    private static final Map<String, Integer> SEEN = new TreeMap<>();

    private final Random random;
    private final QuotaAlmshouse house = new QuotaAlmshouse();
    private final Model model = new Model();
    private final List<String> calls = new ArrayList<>();
    private final int wildness;
    private final int nodesMost;
    private int nodes = 1;
    private int tenants = 0;
    private final List<Integer> files = new ArrayList<>();
    private boolean right = true;

    private RandomRunTests(long seed) {
        random = new Random(seed);
        wildness = 2 + random.nextInt(12);
        nodesMost = seed % 3 == 0 ? 61 : 6 + random.nextInt(20);
    }

    private static Map<String, Method> methodsOf(Class<?> type) {
        Map<String, Method> methods = new HashMap<>();
        for (Method m : type.getDeclaredMethods()) {
            if (java.lang.reflect.Modifier.isPublic(m.getModifiers())) {
                m.setAccessible(true);
                methods.put(m.getName(), m);
            }
        }
        return methods;
    }

    private static String answer(Method method, Object target, Object[] args) {
        try {
            return String.valueOf(method.invoke(target, args));
        } catch (InvocationTargetException e) {
            String thrower = e.getCause().getStackTrace()[0].getClassName();
            if (!thrower.equals(target.getClass().getName())) {
                return "the machine threw " + e.getCause() + " in " + thrower;
            }
            return "throws." + e.getCause().getClass().getSimpleName();
        } catch (IllegalAccessException e) {
            throw new AssertionError(e);
        }
    }

    private String call(String name, Object... args) {
        if (!right || calls.size() >= CALLS) {
            return "";
        }
        String due = answer(MODEL_METHODS.get(name), model, args);
        String got = answer(CLASS_METHODS.get(name), house, args);
        calls.add(name + java.util.Arrays.toString(args) + " -> " + got);
        SEEN.merge(name + " " + (due.startsWith("throws") ? due : "answers"), 1, Integer::sum);
        if (!due.equals(got)) {
            calls.add("due is " + due);
            right = false;
        }
        return got;
    }

    private int upTo(int most) {
        return random.nextInt(most + 1);
    }

    private int tenant() {
        return upTo(20 * wildness) == 0 || tenants == 0 ? upTo(8) - 2 : random.nextInt(tenants);
    }

    private int node() {
        return upTo(10 * wildness) == 0 ? upTo(64) - 2 : random.nextInt(nodes);
    }

    /** Mostly one of the first nodes, which are directories. */
    private int directory() {
        return upTo(4 * wildness) == 0 ? node() : random.nextInt(Math.min(nodes, 5));
    }

    private int kind() {
        return upTo(20 * wildness) == 0 ? upTo(6) - 1 : random.nextInt(2 + upTo(2));
    }

    private int size() {
        return upTo(20 * wildness) == 0 ? new int[] {0, 1000, -5, 999, 1}[upTo(4)] : 1 + upTo(30);
    }

    private char which() {
        return "tdkwx".charAt(upTo(10 * wildness) == 0 ? 4 : upTo(3));
    }

    private int of(char which) {
        return which == 'd' ? directory() : tenant();
    }

    private int file() {
        return files.isEmpty() || upTo(5 * wildness) == 0 ? node() : files.get(random.nextInt(files.size()));
    }

    private static boolean isNumber(String answer) {
        return !answer.isEmpty() && !answer.startsWith("throws");
    }

    private void noteNode(String answer) {
        if (isNumber(answer)) {
            nodes++;
        }
    }

    private void noteFile(String answer) {
        noteNode(answer);
        if (isNumber(answer)) {
            files.add(Integer.parseInt(answer));
        }
    }

    private void setBound() {
        char which = which();
        int of = of(which);
        int kind = kind();
        String charge = call("charge", which, of, kind);
        int near = isNumber(charge) ? Integer.parseInt(charge) : 0;
        int soft = near + upTo(30) - 10;
        int hard = soft + (upTo(5 * wildness) == 0 ? -1 : upTo(40));
        call("setBound", which, of, kind, soft, hard, upTo(10 * wildness) == 0 ? upTo(1) * 101 - 1 : upTo(4));
    }

    private void act() {
        switch (upTo(32)) {
            case 0, 1, 2, 3 -> {
                if (nodes < nodesMost) {
                    noteFile(call("make", tenant(), directory(), kind(), size()));
                }
            }
            case 4, 5, 6 -> call("write", file(), size());
            case 7 -> {
                if (nodes < nodesMost) {
                    noteFile(call("makeReserved", upTo(12), size()));
                }
            }
            case 8, 9 -> call("reserve", tenant(), directory(), kind(), size(),
                    upTo(10 * wildness) == 0 ? upTo(1) * 21 : 1 + upTo(6));
            case 10 -> call("giveUp", upTo(12) - 1);
            case 11 -> call("pack", file());
            case 12, 13, 14 -> call("move", node(), directory());
            case 15, 16 -> call("give", tenant(), directory(), tenant());
            case 17 -> call("delete", file());
            case 18 -> call("restore", file());
            case 19 -> call("snapshot", tenant(), directory());
            case 20 -> call("dropSnapshot", upTo(11) - 1);
            case 21 -> {
                if (upTo(6) == 0) {
                    call("merge", tenant(), tenant());
                }
            }
            case 22 -> {
                if (nodes < nodesMost) {
                    noteNode(call("addDirectory", directory()));
                }
            }
            case 23 -> call("lose", which(), of('t'), kind(), upTo(20 * wildness) == 0 ? 100 : upTo(20) - 10);
            case 24 -> {
                if (upTo(2) == 0) {
                    call("audit");
                }
            }
            case 25, 26 -> setBound();
            case 27 -> {
                call("pass");
            }
            case 28, 29, 30 -> call("request", tenant(), upTo(20 * wildness) == 0 ? upTo(1) * 100 : 1 + upTo(98));
            case 31 -> {
                if (upTo(30) == 0) {
                    tenants = Math.min(5, tenants + (isNumber(call("addTenant", upTo(10), upTo(100))) ? 1 : 0));
                }
            }
            default -> {
                if (upTo(5) < wildness / 2) {
                    call("round");
                }
            }
        }
    }

    private void look() {
        char which = which();
        switch (upTo(11)) {
            case 0 -> call("charge", which, of(which), kind());
            case 1 -> call("chargeAnew", which, of(which), kind());
            case 2 -> call("reason");
            case 3, 4 -> call("graceLeft", which, of(which), kind());
            case 5 -> call("breaches");
            case 6 -> call("isSound");
            case 7 -> call("sizeOf", file());
            case 8 -> call(upTo(1) == 0 ? "ownerOf" : "parentOf", file());
            case 9 -> call("below", directory());
            case 10 -> call(upTo(1) == 0 ? "credits" : "served", tenant());
            default -> call(upTo(1) == 0 ? "fairness" : "reason");
        }
    }

    private void lookAtAll() {
        for (int of = 0; of < Math.max(nodes, 5); of++) {
            for (char which : "tdkw".toCharArray()) {
                if (which == 'd' || of < 5) {
                    for (int kind = 0; kind < (which == 'k' ? 4 : 1); kind++) {
                        call("charge", which, of, kind);
                        call("graceLeft", which, of, kind);
                    }
                }
            }
        }
    }

    private boolean run() {
        tenants = 2 + upTo(3);
        for (int i = 0; i < tenants; i++) {
            call("addTenant", upTo(8) + 1, upTo(20));
        }
        for (int i = 0; i < 4; i++) {
            noteNode(call("addDirectory", random.nextInt(nodes)));
        }
        while (right && calls.size() < CALLS - 100) {
            act();
            if (upTo(2) == 0) {
                look();
            }
        }
        lookAtAll();
        return right;
    }

    /** The last nodes, with and without room for them. */
    private boolean runNodes() {
        tenants = 2;
        call("addTenant", 1, 1);
        call("addTenant", 1, 1);
        for (int i = 0; i < 4; i++) {
            noteNode(call("addDirectory", random.nextInt(nodes)));
            call("reserve", tenant(), 0, kind(), size(), 20);
        }
        while (right && nodes < 59 && calls.size() < CALLS) {
            int before = nodes;
            noteFile(call("make", upTo(1), directory(), upTo(3), 1 + upTo(98)));
            if (nodes == before) {
                noteNode(call("addDirectory", random.nextInt(nodes)));
            }
        }
        while (right && calls.size() < CALLS) {
            act();
            look();
        }
        return right;
    }

    /** Long stretches of days, for what happens at their limit. */
    private boolean runDays() {
        tenants = 2;
        call("addTenant", 1 + upTo(8), upTo(9));
        call("addTenant", 1 + upTo(8), upTo(9));
        noteNode(call("addDirectory", 0));
        for (int i = 0; i < 205; i++) {
            act();
            call("pass");
        }
        return right;
    }

    public static void main(String[] args) {
        int runs = args.length > 0 ? Integer.parseInt(args[0]) : 1500;
        Checks.endWithin(runs);
        int wrong = 0;
        for (int seed = 0; seed < runs && wrong < 3; seed++) {
            RandomRunTests run = new RandomRunTests(seed);
            if (!(seed % 50 == 49 ? run.runDays() : seed % 50 == 48 ? run.runNodes() : run.run())) {
                wrong++;
                System.out.println("seed " + seed + ":");
                run.calls.forEach(System.out::println);
            }
        }
        if (args.length > 1) {
            SEEN.forEach((what, count) -> System.out.println(count + " " + what));
        }
        System.out.println(wrong == 0 ? runs + " random runs are as the model's" : wrong + " random runs are wrong");
        if (wrong != 0) {
            System.exit(1);
        }
    }
}
