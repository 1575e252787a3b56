/**
 * Each refused call: what it throws, which exception comes first where several apply, and that it changes nothing.
 * Of two houses that are built alike one is refused the call; then both must answer all further calls alike.
 */
public final class RefusalTests extends Checks {
    private static final int[] BAD_TENANTS = {-1, 2, 3, 4, 5, 60, -2, 1 << 16};
    private static final int[] BAD_DIRECTORIES = {-1, 4, 5, 6, 7, 8, 59, 60, -3, 1 << 16};
    private static final int[] BAD_FILES = {-1, 0, 1, 2, 3, 4, 7, 8, 59, 60, 1 << 16};
    private static final int[] BAD_NODES = {-1, 0, 4, 7, 8, 59, 60, 1 << 16};
    private static final int[] BAD_IN_BIN = {-1, 0, 1, 2, 3, 4, 5, 6, 8, 59, 60, 1 << 16};
    private static final int[] BAD_RESERVATIONS = {-1, 1, 2, 3, 4, 5, 19, 20, 32, 1 << 16};
    private static final int[] BAD_SNAPSHOTS = {-1, 1, 2, 9, 10, 31, 32, 33, 64, -32, 1 << 16};
    private static final char[] BAD_CHARGES = {'x', 'T', 'D', 'K', 'W', 's', 'u', 'c', 'e', 'j', 'l', 'v', '-', ' ', 0,
        '1', (char) ('t' + 256), (char) 65535};
    private static final int[] BAD_KINDS = {-1, 4, 5, -2};
    private static final int[] BAD_SIZES = {0, 1000, -1, 1001};

    /** What is built twice, for each refused call. */
    private interface Builder {
        QuotaAlmshouse build();
    }

    /**
     * Tenants 0 and 1, and 2 that is gone; directories 1, 2 and 3; a file 4 that is gone, 5 of the tenant 0 in 2, 6 of 1
     * in 1, and 7 in the bin; a reservation 0, and others that are given up (1), used (2: the file 6) and ended with a
     * day (3); a snapshot 0, and one that is dropped (1); a bound with a grace, losses and requests.
     */
    private static QuotaAlmshouse lived() {
        QuotaAlmshouse x = withTenants(3);
        x.addDirectory(0);
        x.addDirectory(1);
        x.addDirectory(0);
        x.delete(x.make(0, 3, 0, 5));
        pass(x, 5);
        x.make(0, 2, 1, 10);
        x.reserve(0, 2, 1, 8, 20);
        x.giveUp(x.reserve(0, 3, 1, 8, 20));
        x.makeReserved(x.reserve(1, 1, 2, 20, 20), 20);
        x.reserve(1, 3, 0, 6, 1);
        x.pass();
        x.delete(x.make(0, 3, 1, 30));
        x.snapshot(1, 1);
        x.dropSnapshot(x.snapshot(0, 2));
        x.setBound('k', 0, 1, 20, 60, 9);
        x.setBound('k', 1, 2, 19, 60, 5);
        x.setBound('d', 3, 0, 0, 60, 6);
        x.request(0, 15);
        x.request(0, 99);
        x.request(1, 11);
        x.request(2, 7);
        x.round();
        x.merge(2, 1);
        x.pack(6);
        x.write(5, 12);
        // The next act that looks at graces, and only this, lets one begin and another one end.
        x.lose('d', 3, 0, 4);
        x.lose('k', 1, 2, -3);
        return x;
    }

    private static QuotaAlmshouse livedWith(Act more) {
        QuotaAlmshouse x = lived();
        more.on(x);
        return x;
    }

    private static QuotaAlmshouse withAllNodes() {
        return livedWith(x -> fillNodes(x, 8));
    }

    private static QuotaAlmshouse withAllReservations() {
        return livedWith(x -> {
            for (int i = 4; i < 20; i++) {
                x.reserve(1, 3, 3, 1, 2);
            }
        });
    }

    private static QuotaAlmshouse withAllSnapshots() {
        return livedWith(x -> {
            for (int i = 2; i < 10; i++) {
                x.snapshot(0, 3);
            }
        });
    }

    private static QuotaAlmshouse withAllTenants() {
        return livedWith(x -> {
            x.addTenant(1, 1);
            x.addTenant(1, 1);
        });
    }

    private static String answer(java.util.function.Supplier<Object> question) {
        try {
            return String.valueOf(question.get());
        } catch (RuntimeException e) {
            return e.getClass().getSimpleName();
        }
    }

    /** All that a house answers; at its end it is asked what changes it, so that hidden differences show. */
    private static String portrait(QuotaAlmshouse x) {
        StringBuilder all = new StringBuilder();
        all.append(x.breaches()).append(x.isSound()).append(answer(x::fairness));
        charges(x, all, true);
        for (int n = 0; n < 9; n++) {
            int node = n;
            all.append(" node ").append(node).append(' ').append(answer(() -> x.sizeOf(node))).append(' ')
                    .append(answer(() -> x.ownerOf(node))).append(' ').append(answer(() -> x.parentOf(node)))
                    .append(' ').append(answer(() -> x.below(node)));
        }
        for (int t = 0; t < 5; t++) {
            int tenant = t;
            all.append(" row ").append(answer(() -> x.credits(tenant))).append(answer(() -> x.served(tenant)))
                    .append(answer(() -> x.request(tenant, 1)));
        }
        all.append(" round ").append(x.round());
        for (int t = 0; t < 3; t++) {
            int tenant = t;
            all.append(' ').append(answer(() -> x.credits(tenant))).append(answer(() -> x.served(tenant)));
        }
        future(x, all);
        return all.toString();
    }

    private static void charges(QuotaAlmshouse x, StringBuilder all, boolean anew) {
        for (char which : "tdkw".toCharArray()) {
            for (int i = 0; i < (which == 'd' ? 4 : 2); i++) {
                for (int k = 0; k < (which == 'k' ? 4 : 1); k++) {
                    int of = i;
                    int kind = k;
                    all.append(' ').append(which).append(of).append(kind)
                            .append(answer(() -> x.charge(which, of, kind)));
                    if (anew) {
                        all.append('/').append(answer(() -> x.chargeAnew(which, of, kind))).append('/')
                                .append(answer(() -> x.graceLeft(which, of, kind)));
                    }
                }
            }
        }
    }

    private static void future(QuotaAlmshouse x, StringBuilder all) {
        all.append(" next ").append(answer(() -> x.addTenant(1, 1))).append(answer(() -> x.addDirectory(0)))
                .append(answer(() -> x.reserve(1, 3, 3, 1, 20))).append(answer(() -> x.snapshot(0, 3)));
        all.append(" day ").append(answer(x::pass));
        charges(x, all, false);
        for (int n = 4; n < 8; n++) {
            int node = n;
            all.append(' ').append(answer(() -> x.sizeOf(node))).append(answer(() -> x.pack(node)))
                    .append(answer(() -> x.restore(node)));
        }
        for (int i = 0; i < 20; i++) {
            int number = i;
            all.append(' ').append(answer(() -> x.giveUp(number)))
                    .append(number < 10 ? answer(() -> x.dropSnapshot(number)) : "");
        }
        charges(x, all, false);
        all.append(" audit ").append(x.audit());
    }

    private static void refused(String what, Builder builder, Class<?> due, Act call) {
        QuotaAlmshouse x = builder.build();
        QuotaAlmshouse twin = builder.build();
        refused(what, due, () -> call.on(x));
        is(what + ", the reason stays", x.reason(), twin.reason());
        is(what + ", nothing is changed", portrait(x), portrait(twin));
    }

    private static void refusedFor(String what, Builder builder, char reason, Act call) {
        QuotaAlmshouse x = builder.build();
        QuotaAlmshouse twin = builder.build();
        refusedFor(x, what, reason, () -> call.on(x));
        is(what + ", nothing is changed", portrait(x), portrait(twin));
    }

    private static int[] withFar(int[] numbers) {
        int[] all = java.util.Arrays.copyOf(numbers, numbers.length + FAR.length);
        System.arraycopy(FAR, 0, all, numbers.length, FAR.length);
        return all;
    }

    private interface Numbered {
        void on(QuotaAlmshouse x, int number);
    }

    private static void refusedForEach(String what, int[] numbers, Class<?> due, Numbered call) {
        for (int number : withFar(numbers)) {
            refused(what + " " + number, RefusalTests::lived, due, x -> call.on(x, number));
        }
    }

    private static void aHouseThatHasLived() {
        QuotaAlmshouse x = lived();
        is("file", x.sizeOf(5), 12);
        is("file made with room", x.ownerOf(6), 1);
        is("files", x.below(0), 2);
        is("the bin", x.restore(7), 3);
        is("portraits show what is changed", portrait(lived()).equals(portrait(x)), false);
        is("portraits of twins are alike", portrait(lived()), portrait(lived()));
        QuotaAlmshouse y = lived();
        refused("a grace has not begun", ELEMENT, () -> y.graceLeft('d', 3, 0));
        is("a grace has not ended", y.graceLeft('k', 1, 2), 5);
        y.dropSnapshot(y.snapshot(0, 3));
        is("it begins with an act", y.graceLeft('d', 3, 0), 6);
        refused("it ends with an act", ELEMENT, () -> y.graceLeft('k', 1, 2));
    }

    private static void addTenant() {
        refusedForEach("weight", new int[] {0, 10, -1, 11}, ARGUMENT, (x, n) -> x.addTenant(n, 5));
        refusedForEach("burst", new int[] {-1, 100, -99, 101}, ARGUMENT, (x, n) -> x.addTenant(5, n));
        refused("both", RefusalTests::lived, ARGUMENT, x -> x.addTenant(0, 100));
        refused("a sixth", RefusalTests::withAllTenants, STATE, x -> x.addTenant(1, 0));
        refused("weight, and a sixth", RefusalTests::withAllTenants, ARGUMENT, x -> x.addTenant(10, 0));
        refused("burst, and a sixth", RefusalTests::withAllTenants, ARGUMENT, x -> x.addTenant(1, 100));
    }

    private static void addDirectory() {
        refusedForEach("directory", BAD_DIRECTORIES, ELEMENT, (x, n) -> x.addDirectory(n));
        refused("a 61st node", RefusalTests::withAllNodes, STATE, x -> x.addDirectory(0));
        refused("directory, and a 61st node", RefusalTests::withAllNodes, ELEMENT, x -> x.addDirectory(60));
        refused("a file, and a 61st node", RefusalTests::withAllNodes, ELEMENT, x -> x.addDirectory(5));
    }

    private static void setBound() {
        for (char which : BAD_CHARGES) {
            refused("which " + (int) which, RefusalTests::lived, ARGUMENT, x -> x.setBound(which, 0, 0, 1, 2, 3));
            refused("which, and of", RefusalTests::lived, ARGUMENT, x -> x.setBound(which, 9, 0, 1, 2, 3));
        }
        refusedForEach("kind", BAD_KINDS, ARGUMENT, (x, n) -> x.setBound('k', 0, n, 1, 2, 3));
        refusedForEach("kind, and tenant", BAD_KINDS, ARGUMENT, (x, n) -> x.setBound('k', 9, n, 1, 2, 3));
        refusedForEach("tenant of k", BAD_TENANTS, INDEX, (x, n) -> x.setBound('k', n, 1, 1, 2, 3));
        refusedForEach("tenant of t", BAD_TENANTS, INDEX, (x, n) -> x.setBound('t', n, 1, 1, 2, 3));
        refusedForEach("tenant of w", BAD_TENANTS, INDEX, (x, n) -> x.setBound('w', n, 1, 1, 2, 3));
        refusedForEach("directory", BAD_DIRECTORIES, INDEX, (x, n) -> x.setBound('d', n, 1, 1, 2, 3));
    }

    private static void setBoundNumbers() {
        for (char which : "tdkw".toCharArray()) {
            for (int of : new int[] {0, 9}) {
                refusedForEach("soft below", new int[] {-1, -2}, ARGUMENT,
                        (x, n) -> x.setBound(which, of, 1, Math.min(n, -1), 9, 3));
                refusedForEach("soft and hard above", new int[] {10000, 10001}, ARGUMENT,
                        (x, n) -> x.setBound(which, of, 1, Math.max(n, 10000), Math.max(n, 10000), 3));
                refusedForEach("hard above", new int[] {10000, 10001}, ARGUMENT,
                        (x, n) -> x.setBound(which, of, 1, 9999, Math.max(n, 10000), 3));
                refusedForEach("hard less than soft", new int[] {99, 0, -1}, ARGUMENT,
                        (x, n) -> x.setBound(which, of, 1, 100, Math.min(n, 99), 3));
                refusedForEach("grace", new int[] {-1, 100, -2, 101}, ARGUMENT,
                        (x, n) -> x.setBound(which, of, 1, 1, 2, n));
            }
        }
        refused("9999 and 9998", RefusalTests::lived, ARGUMENT, x -> x.setBound('t', 0, 0, 9999, 9998, 0));
        refused("1 and 0", RefusalTests::lived, ARGUMENT, x -> x.setBound('k', 0, 1, 1, 0, 0));
    }

    private interface Question {
        int on(QuotaAlmshouse x, char which, int of, int kind);
    }

    private static void chargeQuestions() {
        Question[] questions = {(x, w, o, k) -> x.charge(w, o, k), (x, w, o, k) -> x.chargeAnew(w, o, k),
            (x, w, o, k) -> x.graceLeft(w, o, k)};
        for (Question q : questions) {
            for (char which : BAD_CHARGES) {
                refused("which " + (int) which, RefusalTests::lived, ARGUMENT, x -> q.on(x, which, 0, 0));
                refused("which, and of", RefusalTests::lived, ARGUMENT, x -> q.on(x, which, 9, 0));
            }
            refusedForEach("kind", BAD_KINDS, ARGUMENT, (x, n) -> q.on(x, 'k', 0, n));
            refusedForEach("kind, and tenant", BAD_KINDS, ARGUMENT, (x, n) -> q.on(x, 'k', 9, n));
            refusedForEach("tenant of k", BAD_TENANTS, INDEX, (x, n) -> q.on(x, 'k', n, 0));
            refusedForEach("tenant of t", BAD_TENANTS, INDEX, (x, n) -> q.on(x, 't', n, 0));
            refusedForEach("tenant of w", BAD_TENANTS, INDEX, (x, n) -> q.on(x, 'w', n, 0));
            refusedForEach("directory", BAD_DIRECTORIES, INDEX, (x, n) -> q.on(x, 'd', n, 0));
        }
    }

    private static void graceLeft() {
        for (char which : "tdkw".toCharArray()) {
            refused("no bound of " + which, RefusalTests::lived, ELEMENT, x -> x.graceLeft(which, 1, 0));
            Builder withBound = () -> livedWith(x -> x.setBound(which, 1, 0, x.charge(which, 1, 0), 9999, 0));
            refused("not begun, of " + which, withBound, ELEMENT, x -> x.graceLeft(which, 1, 0));
        }
    }

    /** The file 5 of the tenant 0 in the directory 2 of 1, and all bounds that hinder it from becoming greater. */
    private static QuotaAlmshouse bound(QuotaAlmshouse x, String which) {
        for (int tenant = 0; tenant < 2; tenant++) {
            if (which.indexOf('t') >= 0) {
                x.setBound('t', tenant, 0, 0, x.charge('t', tenant, 0), 99);
            }
            if (which.indexOf('w') >= 0) {
                x.setBound('w', tenant, 0, 0, x.charge('w', tenant, 0), 99);
            }
            for (int kind = 0; kind < 4 && which.indexOf('k') >= 0; kind++) {
                x.setBound('k', tenant, kind, 0, x.charge('k', tenant, kind), 99);
            }
        }
        for (int directory = 0; directory < 4 && which.indexOf('d') >= 0; directory++) {
            x.setBound('d', directory, 0, 0, Math.max(0, x.charge('d', directory, 0)), 99);
        }
        return x;
    }

    private static Builder bounded(String which) {
        return () -> bound(lived(), which);
    }

    private static void refusedForEachBound(String what, String all, Act call) {
        for (int i = 0; i < all.length(); i++) {
            refusedFor(what + " for " + all.charAt(i), bounded(all.substring(i, i + 1)), all.charAt(i), call);
            refusedFor(what + " for " + all.substring(i), bounded(all.substring(i)), all.charAt(i), call);
        }
    }

    private static void make() {
        refusedForEach("tenant", BAD_TENANTS, INDEX, (x, n) -> x.make(n, 2, 1, 5));
        refusedForEach("tenant, and all others", BAD_TENANTS, INDEX, (x, n) -> x.make(n, 9, 4, 0));
        refusedForEach("directory", BAD_DIRECTORIES, ELEMENT, (x, n) -> x.make(0, n, 1, 5));
        refusedForEach("directory, and kind", BAD_DIRECTORIES, ELEMENT, (x, n) -> x.make(0, n, 4, 5));
        refusedForEach("directory, and size", BAD_DIRECTORIES, ELEMENT, (x, n) -> x.make(0, n, 1, 0));
        refusedForEach("kind", BAD_KINDS, ARGUMENT, (x, n) -> x.make(0, 2, n, 5));
        refusedForEach("size", BAD_SIZES, ARGUMENT, (x, n) -> x.make(0, 2, 1, n));
        refusedForEachBound("make", "tdkw", x -> x.make(0, 2, 1, 5));
        refused("tenant before bound", bounded("d"), INDEX, x -> x.make(2, 2, 1, 5));
        refused("directory before bound", bounded("tkw"), ELEMENT, x -> x.make(0, 5, 1, 5));
        refused("kind before bound", bounded("tdw"), ARGUMENT, x -> x.make(0, 2, 4, 5));
        refused("size before bound", bounded("tdkw"), ARGUMENT, x -> x.make(0, 2, 1, 1000));
    }

    private static void makeWithoutRoom() {
        Builder full = RefusalTests::withAllNodes;
        refused("a 61st node", full, STATE, x -> x.make(0, 2, 1, 5));
        refused("tenant before state", full, INDEX, x -> x.make(2, 2, 1, 5));
        refused("directory before state", full, ELEMENT, x -> x.make(0, 60, 1, 5));
        refused("kind before state", full, ARGUMENT, x -> x.make(0, 2, -1, 5));
        refused("size before state", full, ARGUMENT, x -> x.make(0, 2, 1, 0));
        for (char which : "tdkw".toCharArray()) {
            refusedFor("bound before state, " + which, () -> bound(withAllNodes(), "" + which), which,
                    x -> x.make(0, 2, 1, 5));
        }
    }

    private static void write() {
        refusedForEach("file", BAD_FILES, ELEMENT, (x, n) -> x.write(n, 5));
        refusedForEach("file, and size", BAD_FILES, ELEMENT, (x, n) -> x.write(n, 0));
        refusedForEach("size", BAD_SIZES, ARGUMENT, (x, n) -> x.write(5, n));
        refusedForEachBound("write", "tdkw", x -> x.write(5, 13));
        refused("file before bound", bounded("tdkw"), ELEMENT, x -> x.write(7, 999));
        refused("size before bound", bounded("tdkw"), ARGUMENT, x -> x.write(5, 1000));
        Builder toPack = () -> livedWith(x -> {
            x.pack(5);
            x.setBound('w', 0, 0, 0, 0, 0);
        });
        refusedFor("it is still to be packed", toPack, 'w', x -> x.write(5, 1));
    }

    private static void makeReserved() {
        refusedForEach("reservation", BAD_RESERVATIONS, ELEMENT, (x, n) -> x.makeReserved(n, 5));
        refusedForEach("reservation, and size", BAD_RESERVATIONS, ELEMENT, (x, n) -> x.makeReserved(n, 0));
        refusedForEach("size", BAD_SIZES, ARGUMENT, (x, n) -> x.makeReserved(0, n));
        refusedForEachBound("makeReserved", "tdkw", x -> x.makeReserved(0, 9));
        refusedFor("w as a whole", bounded("tdkw"), 'w', x -> x.makeReserved(0, 8));
        refused("reservation before bound", bounded("tdkw"), ELEMENT, x -> x.makeReserved(1, 999));
        refused("size before bound", bounded("tdkw"), ARGUMENT, x -> x.makeReserved(0, 1000));
        Builder full = RefusalTests::withAllNodes;
        refused("a 61st node", full, STATE, x -> x.makeReserved(0, 8));
        refused("reservation before state", full, ELEMENT, x -> x.makeReserved(3, 8));
        refused("size before state", full, ARGUMENT, x -> x.makeReserved(0, 0));
        for (char which : "tdkw".toCharArray()) {
            refusedFor("bound before state, " + which, () -> bound(withAllNodes(), "" + which), which,
                    x -> x.makeReserved(0, 9));
        }
    }

    private static void reserve() {
        refusedForEach("tenant", BAD_TENANTS, INDEX, (x, n) -> x.reserve(n, 2, 1, 5, 5));
        refusedForEach("tenant, and all others", BAD_TENANTS, INDEX, (x, n) -> x.reserve(n, 9, 4, 0, 0));
        refusedForEach("directory", BAD_DIRECTORIES, ELEMENT, (x, n) -> x.reserve(0, n, 1, 5, 5));
        refusedForEach("directory, and kind", BAD_DIRECTORIES, ELEMENT, (x, n) -> x.reserve(0, n, 4, 5, 5));
        refusedForEach("directory, and size", BAD_DIRECTORIES, ELEMENT, (x, n) -> x.reserve(0, n, 1, 0, 5));
        refusedForEach("directory, and days", BAD_DIRECTORIES, ELEMENT, (x, n) -> x.reserve(0, n, 1, 5, 0));
        refusedForEach("kind", BAD_KINDS, ARGUMENT, (x, n) -> x.reserve(0, 2, n, 5, 5));
        refusedForEach("size", BAD_SIZES, ARGUMENT, (x, n) -> x.reserve(0, 2, 1, n, 5));
        refusedForEach("days", new int[] {0, 21, -1, 22}, ARGUMENT, (x, n) -> x.reserve(0, 2, 1, 5, n));
        refusedForEachBound("reserve", "tdk", x -> x.reserve(0, 2, 1, 5, 5));
        refused("tenant before bound", bounded("d"), INDEX, x -> x.reserve(2, 2, 1, 5, 5));
        refused("directory before bound", bounded("tk"), ELEMENT, x -> x.reserve(0, 5, 1, 5, 5));
        refused("kind before bound", bounded("td"), ARGUMENT, x -> x.reserve(0, 2, 4, 5, 5));
        refused("size before bound", bounded("tdk"), ARGUMENT, x -> x.reserve(0, 2, 1, 1000, 5));
        refused("days before bound", bounded("tdk"), ARGUMENT, x -> x.reserve(0, 2, 1, 5, 21));
    }

    private static void reserveWithoutRoom() {
        Builder full = RefusalTests::withAllReservations;
        refused("a 21st", full, STATE, x -> x.reserve(0, 2, 1, 5, 5));
        refused("a 21st, though some ended", () -> livedWith(x -> {
            for (int i = 4; i < 20; i++) {
                x.giveUp(x.reserve(1, 3, 3, 1, 2));
            }
        }), STATE, x -> x.reserve(0, 2, 1, 5, 5));
        refused("tenant before state", full, INDEX, x -> x.reserve(2, 2, 1, 5, 5));
        refused("directory before state", full, ELEMENT, x -> x.reserve(0, 5, 1, 5, 5));
        refused("kind before state", full, ARGUMENT, x -> x.reserve(0, 2, 4, 5, 5));
        refused("size before state", full, ARGUMENT, x -> x.reserve(0, 2, 1, 0, 5));
        refused("days before state", full, ARGUMENT, x -> x.reserve(0, 2, 1, 5, 0));
        for (char which : "tdk".toCharArray()) {
            refusedFor("bound before state, " + which, () -> bound(withAllReservations(), "" + which), which,
                    x -> x.reserve(0, 2, 1, 5, 5));
        }
    }

    private static void giveUp() {
        refusedForEach("reservation", BAD_RESERVATIONS, ELEMENT, (x, n) -> x.giveUp(n));
    }

    private static void pack() {
        refusedForEach("file", BAD_FILES, ELEMENT, (x, n) -> x.pack(n));
        refused("it is to be packed", RefusalTests::lived, STATE, x -> x.pack(6));
        Builder deleted = () -> livedWith(x -> x.delete(6));
        refused("in the bin before to be packed", deleted, ELEMENT, x -> x.pack(6));
    }

    private static void move() {
        refusedForEach("node", BAD_NODES, ELEMENT, (x, n) -> x.move(n, 3));
        refusedForEach("node, which is the directory", BAD_NODES, ELEMENT, (x, n) -> x.move(n, n));
        refusedForEach("directory", BAD_DIRECTORIES, ELEMENT, (x, n) -> x.move(1, n));
        refusedForEach("directory, for a file", BAD_DIRECTORIES, ELEMENT, (x, n) -> x.move(5, n));
        refused("the top below itself", RefusalTests::lived, ELEMENT, x -> x.move(0, 2));
        refused("into where it was, in the bin", RefusalTests::lived, ELEMENT, x -> x.move(7, 3));
        refused("itself", RefusalTests::lived, ARGUMENT, x -> x.move(1, 1));
        refused("below it", RefusalTests::lived, ARGUMENT, x -> x.move(1, 2));
        refused("its parent, the top", RefusalTests::lived, ARGUMENT, x -> x.move(1, 0));
        refused("its parent", RefusalTests::lived, ARGUMENT, x -> x.move(2, 1));
        refused("the parent of a file", RefusalTests::lived, ARGUMENT, x -> x.move(5, 2));
        refused("far below it", () -> livedWith(x -> x.addDirectory(2)), ARGUMENT, x -> x.move(1, 8));
        refusedFor("a directory", bounded("d"), 'd', x -> x.move(1, 3));
        refusedFor("a file", bounded("d"), 'd', x -> x.move(5, 3));
        refusedFor("a file downwards", bounded("d"), 'd', x -> x.move(6, 2));
        refused("node before bound", bounded("d"), ELEMENT, x -> x.move(7, 1));
        refused("directory before bound", bounded("d"), ELEMENT, x -> x.move(5, 7));
        refused("itself before bound", bounded("d"), ARGUMENT, x -> x.move(1, 1));
        refused("below it before bound", bounded("d"), ARGUMENT, x -> x.move(1, 2));
        refused("its parent before bound", bounded("d"), ARGUMENT, x -> x.move(5, 2));
    }

    private static void give() {
        refusedForEach("tenant", BAD_TENANTS, INDEX, (x, n) -> x.give(n, 2, 1));
        refusedForEach("other", BAD_TENANTS, INDEX, (x, n) -> x.give(0, 2, n));
        refusedForEach("both, the same", BAD_TENANTS, INDEX, (x, n) -> x.give(n, 2, n));
        refusedForEach("tenant, and directory", BAD_TENANTS, INDEX, (x, n) -> x.give(n, 9, 1));
        refusedForEach("other, and directory", BAD_TENANTS, INDEX, (x, n) -> x.give(0, 9, n));
        refusedForEach("directory", BAD_DIRECTORIES, ELEMENT, (x, n) -> x.give(0, n, 1));
        refusedForEach("directory, and the same", BAD_DIRECTORIES, ELEMENT, (x, n) -> x.give(0, n, 0));
        refused("the same", RefusalTests::lived, ARGUMENT, x -> x.give(0, 0, 0));
        refused("the same, without files", RefusalTests::lived, ARGUMENT, x -> x.give(1, 3, 1));
        refused("the same before bound", bounded("tk"), ARGUMENT, x -> x.give(0, 0, 0));
        refused("other before bound", bounded("tk"), INDEX, x -> x.give(0, 0, 2));
        refusedFor("give for k", bounded("k"), 'k', x -> x.give(0, 0, 1));
        Builder noneHeld = () -> livedWith(x -> {
            x.dropSnapshot(0);
            bound(x, "t");
        });
        refusedFor("give for t", noneHeld, 't', x -> x.give(0, 0, 1));
        Builder lastKind = () -> livedWith(x -> {
            x.make(0, 2, 0, 1);
            x.make(0, 2, 3, 9);
            x.setBound('k', 1, 3, 8, 8, 0);
        });
        refusedFor("all or none, for one kind", lastKind, 'k', x -> x.give(0, 0, 1));
    }

    private static void deleteAndRestore() {
        refusedForEach("file", BAD_FILES, ELEMENT, (x, n) -> x.delete(n));
        refusedForEach("in the bin", BAD_IN_BIN, ELEMENT, (x, n) -> x.restore(n));
        refusedFor("restore", () -> livedWith(x -> x.setBound('d', 3, 0, 0, 30, 99)), 'd', x -> x.restore(7));
        refusedFor("restore, the top", () -> livedWith(x -> x.setBound('d', 0, 0, 0, 49, 99)), 'd',
                x -> x.restore(7));
        refused("file before bound", bounded("d"), ELEMENT, x -> x.restore(5));
        refused("gone before bound", bounded("d"), ELEMENT, x -> x.restore(4));
    }

    private static void snapshots() {
        refusedForEach("tenant", BAD_TENANTS, INDEX, (x, n) -> x.snapshot(n, 2));
        refusedForEach("tenant, and directory", BAD_TENANTS, INDEX, (x, n) -> x.snapshot(n, 9));
        refusedForEach("directory", BAD_DIRECTORIES, ELEMENT, (x, n) -> x.snapshot(0, n));
        refusedForEach("snapshot", BAD_SNAPSHOTS, ELEMENT, (x, n) -> x.dropSnapshot(n));
        refusedFor("snapshot for t", bounded("t"), 't', x -> x.snapshot(0, 1));
        refused("tenant before bound", bounded("t"), INDEX, x -> x.snapshot(2, 1));
        refused("directory before bound", bounded("t"), ELEMENT, x -> x.snapshot(0, 6));
        Builder full = RefusalTests::withAllSnapshots;
        refused("an 11th", full, STATE, x -> x.snapshot(0, 1));
        refused("tenant before state", full, INDEX, x -> x.snapshot(-1, 1));
        refused("directory before state", full, ELEMENT, x -> x.snapshot(0, 8));
        refusedFor("bound before state", () -> bound(withAllSnapshots(), "t"), 't', x -> x.snapshot(0, 1));
        refused("an 11th, though some are dropped", () -> livedWith(x -> {
            for (int i = 2; i < 10; i++) {
                x.dropSnapshot(x.snapshot(0, 3));
            }
        }), STATE, x -> x.snapshot(0, 1));
    }

    private static void merge() {
        refusedForEach("tenant", BAD_TENANTS, INDEX, (x, n) -> x.merge(n, 1));
        refusedForEach("into", BAD_TENANTS, INDEX, (x, n) -> x.merge(1, n));
        refusedForEach("both, the same", BAD_TENANTS, INDEX, (x, n) -> x.merge(n, n));
        refused("the same", RefusalTests::lived, ARGUMENT, x -> x.merge(1, 1));
        refused("the first one", RefusalTests::lived, ARGUMENT, x -> x.merge(0, 0));
    }

    private static void questionsOfNodes() {
        refusedForEach("sizeOf", BAD_FILES, ELEMENT, (x, n) -> x.sizeOf(n));
        refusedForEach("ownerOf", BAD_FILES, ELEMENT, (x, n) -> x.ownerOf(n));
        refusedForEach("parentOf", BAD_NODES, ELEMENT, (x, n) -> x.parentOf(n));
        refusedForEach("below", BAD_DIRECTORIES, ELEMENT, (x, n) -> x.below(n));
    }

    private static void requests() {
        int[] badCosts = {0, 100, -1, 101};
        refusedForEach("tenant", BAD_TENANTS, INDEX, (x, n) -> x.request(n, 5));
        refusedForEach("tenant, and cost", BAD_TENANTS, INDEX, (x, n) -> x.request(n, 0));
        refusedForEach("cost", badCosts, ARGUMENT, (x, n) -> x.request(0, n));
        Builder full = () -> livedWith(x -> {
            while (x.request(0, 9) < 12) {
                continue;
            }
        });
        refused("a 13th", full, STATE, x -> x.request(0, 5));
        refused("cost before state", full, ARGUMENT, x -> x.request(0, 100));
        refused("cost 0 before state", full, ARGUMENT, x -> x.request(0, 0));
        Builder gone = () -> livedWith(x -> {
            while (x.request(0, 9) < 12) {
                continue;
            }
            x.merge(0, 1);
        });
        refused("gone before state", gone, INDEX, x -> x.request(0, 5));
        refusedForEach("credits", BAD_TENANTS, INDEX, (x, n) -> x.credits(n));
        refusedForEach("served", BAD_TENANTS, INDEX, (x, n) -> x.served(n));
    }

    private static void lose() {
        for (char which : BAD_CHARGES) {
            refused("which " + (int) which, RefusalTests::lived, ARGUMENT, x -> x.lose(which, 0, 0, 1));
        }
        for (char which : "tdk".toCharArray()) {
            for (int of : new int[] {0, 9}) {
                refusedForEach("change of " + which, new int[] {-100, 100, -101, 101}, ARGUMENT,
                        (x, n) -> x.lose(which, of, 1, n));
            }
        }
        refused("w", RefusalTests::lived, ARGUMENT, x -> x.lose('w', 0, 0, 0));
        refusedForEach("w, and tenant", BAD_TENANTS, ARGUMENT, (x, n) -> x.lose('w', n, 0, 1));
        refusedForEach("kind", BAD_KINDS, ARGUMENT, (x, n) -> x.lose('k', 0, n, 1));
        refusedForEach("kind, and tenant", BAD_KINDS, ARGUMENT, (x, n) -> x.lose('k', 9, n, 1));
        refusedForEach("tenant of t", BAD_TENANTS, INDEX, (x, n) -> x.lose('t', n, 0, 1));
        refusedForEach("tenant of k", BAD_TENANTS, INDEX, (x, n) -> x.lose('k', n, 0, 1));
        refusedForEach("directory", BAD_DIRECTORIES, INDEX, (x, n) -> x.lose('d', n, 0, 1));
    }

    private static void passOnTheLastDay() {
        QuotaAlmshouse[] houses = {house(), house()};
        for (QuotaAlmshouse x : houses) {
            x.make(0, 2, 1, 9);
            pass(x, 200);
            x.write(4, 20);
            x.pack(4);
            x.delete(x.make(0, 2, 1, 9));
            x.reserve(0, 2, 1, 5, 1);
            x.setBound('t', 0, 0, 3, 99, 1);
        }
        refused("day 200", STATE, houses[0]::pass);
        refused("day 200 again", STATE, houses[0]::pass);
        is("nothing is changed", portrait(houses[0]), portrait(houses[1]));
        is("what was reserved stays", house().reserve(0, 2, 1, 5, 1), 0);
    }

    private static void fairness() {
        refused("no tenants", QuotaAlmshouse::new, ELEMENT, QuotaAlmshouse::fairness);
        Builder noneServed = () -> {
            QuotaAlmshouse x = house();
            x.request(0, 99);
            x.round();
            return x;
        };
        refused("none served", noneServed, ELEMENT, QuotaAlmshouse::fairness);
    }

    public static void main(String[] args) throws Exception {
        runAll(RefusalTests.class);
    }
}
