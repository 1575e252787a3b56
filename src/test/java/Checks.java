import java.lang.reflect.InvocationTargetException;
import java.lang.reflect.Method;
import java.lang.reflect.Modifier;
import java.util.Arrays;
import java.util.Comparator;
import java.util.NoSuchElementException;

/** What the tests share: checks that are counted, houses to begin with, and the running of all tests of a class. */
abstract class Checks {
    /** A call whose answer is of no interest. */
    interface Call {
        void run();
    }

    /** Something that is done to a house. */
    interface Act {
        void on(QuotaAlmshouse x);
    }

    static final Class<?> ARGUMENT = IllegalArgumentException.class;
    static final Class<?> INDEX = IndexOutOfBoundsException.class;
    static final Class<?> ELEMENT = NoSuchElementException.class;
    static final Class<?> STATE = IllegalStateException.class;
    static final Class<?> BOUND = UnsupportedOperationException.class;

    /** Numbers that are far outside each range. */
    static final int[] FAR = {Integer.MIN_VALUE, Integer.MIN_VALUE + 1, Integer.MAX_VALUE - 1, Integer.MAX_VALUE};

    private static int checks = 0;
    private static int wrong = 0;

    static void is(String what, Object got, Object due) {
        checks++;
        if (!got.equals(due)) {
            wrong++;
            System.out.println(what + ": " + got + ", due is " + due);
        }
    }

    static void refused(String what, Class<?> due, Call call) {
        Object got = "no exception";
        try {
            call.run();
        } catch (RuntimeException e) {
            got = e.getClass();
            is(what + ", thrown by", e.getStackTrace()[0].getClassName(), "QuotaAlmshouse");
        }
        is(what, got, due);
    }

    static void refusedFor(QuotaAlmshouse x, String what, char reason, Call call) {
        refused(what, BOUND, call);
        is(what + ", reason", x.reason(), reason);
    }

    static void fits(String what, Call call) {
        Object got = "no exception";
        try {
            call.run();
        } catch (RuntimeException e) {
            got = e;
        }
        is(what, got, "no exception");
    }

    static QuotaAlmshouse withTenants(int tenants) {
        QuotaAlmshouse x = new QuotaAlmshouse();
        for (int i = 0; i < tenants; i++) {
            x.addTenant(1, 0);
        }
        return x;
    }

    /** Two tenants and the directories 1 in the top, 2 in 1, 3 in the top. */
    static QuotaAlmshouse house() {
        QuotaAlmshouse x = withTenants(2);
        x.addDirectory(0);
        x.addDirectory(1);
        x.addDirectory(0);
        return x;
    }

    static void pass(QuotaAlmshouse x, int days) {
        for (int i = 0; i < days; i++) {
            x.pass();
        }
    }

    static void rounds(QuotaAlmshouse x, int rounds) {
        for (int i = 0; i < rounds; i++) {
            x.round();
        }
    }

    static void fillNodes(QuotaAlmshouse x, int nodes) {
        for (int i = nodes; i < 60; i++) {
            x.addDirectory(0);
        }
    }

    /** Fails the run if it has not ended after so many seconds, so that a call that does not end is told too. */
    static void endWithin(int seconds) {
        Thread watch = new Thread(() -> {
            try {
                Thread.sleep(seconds * 1000L);
            } catch (InterruptedException e) {
                return;
            }
            System.out.println("not ended after " + seconds + " seconds");
            Runtime.getRuntime().halt(1);
        });
        watch.setDaemon(true);
        watch.start();
    }

    /** Runs each test of the class: its static methods that take nothing and answer nothing. */
    static void runAll(Class<?> tests) throws Exception {
        endWithin(120);
        Method[] methods = tests.getDeclaredMethods();
        Arrays.sort(methods, Comparator.comparing(Method::getName));
        int count = 0;
        for (Method m : methods) {
            if (Modifier.isStatic(m.getModifiers()) && !m.isSynthetic() && m.getParameterCount() == 0
                    && m.getReturnType() == void.class) {
                m.setAccessible(true);
                runOne(m);
                count++;
            }
        }
        System.out.println(count + " tests with " + checks + " checks, " + wrong + " wrong");
        if (wrong != 0 || count == 0) {
            System.exit(1);
        }
    }

    private static void runOne(Method test) throws IllegalAccessException {
        try {
            test.invoke(null);
        } catch (InvocationTargetException e) {
            wrong++;
            System.out.println(test.getName() + " ended with " + e.getCause());
            e.getCause().printStackTrace(System.out);
        }
    }
}
