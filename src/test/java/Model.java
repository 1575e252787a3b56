import java.util.ArrayList;
import java.util.HashMap;
import java.util.LinkedHashSet;
import java.util.List;
import java.util.Map;
import java.util.NoSuchElementException;
import java.util.Set;
import java.util.TreeMap;

/**
 * The document told a second time, as slowly as its words: no charge is kept. Each act is done on a copy, all
 * charges of the copy are counted anew and compared with those before, and the copy is thrown away if a bound is
 * broken. What is lost of a charge is kept beside it.
 */
final class Model {
    private static final class Tenant {
        int weight, burst, credits;
        boolean gone;
        long served;
        List<Integer> requests = new ArrayList<>();

        Tenant copy() {
            Tenant t = new Tenant();
            t.weight = weight;
            t.burst = burst;
            t.credits = credits;
            t.gone = gone;
            t.served = served;
            t.requests = new ArrayList<>(requests);
            return t;
        }
    }

    private static final class Node implements Cloneable {
        boolean directory, inBin, gone, toPack;
        int parent, owner, kind, content, deletedOn;

        Node copy() {
            try {
                return (Node) clone();
            } catch (CloneNotSupportedException e) {
                throw new AssertionError(e);
            }
        }

        boolean isFileInTree() {
            return !directory && !inBin && !gone;
        }
    }

    private record Reservation(int tenant, int directory, int kind, int size, int lastDay) {
    }

    private record Snapshot(int tenant, Set<Integer> contents) {
    }

    private record Bound(int soft, int hard, int grace, Integer begun) {
        boolean isBrokenBy(int charge, int day) {
            return charge > hard || charge > soft && begun != null && day >= begun + grace;
        }
    }

    private static final class State {
        int day = 0;
        List<Tenant> tenants = new ArrayList<>();
        List<Node> nodes = new ArrayList<>();
        List<Integer> contentSizes = new ArrayList<>();
        Map<Integer, Reservation> reservations = new TreeMap<>();
        int reservationsMade = 0;
        Map<Integer, Snapshot> snapshots = new TreeMap<>();
        int snapshotsMade = 0;
        Map<String, Integer> lost = new HashMap<>();
        Map<String, Integer> written = new HashMap<>();
        Map<String, Bound> bounds = new HashMap<>();

        State copy() {
            State s = new State();
            s.day = day;
            for (Tenant t : tenants) {
                s.tenants.add(t.copy());
            }
            for (Node n : nodes) {
                s.nodes.add(n.copy());
            }
            s.contentSizes = new ArrayList<>(contentSizes);
            s.reservations = new TreeMap<>(reservations);
            s.reservationsMade = reservationsMade;
            s.snapshots = new TreeMap<>(snapshots);
            s.snapshotsMade = snapshotsMade;
            s.lost = new HashMap<>(lost);
            s.written = new HashMap<>(written);
            s.bounds = new HashMap<>(bounds);
            return s;
        }

        boolean isAbove(int directory, int node) {
            for (int up = node; up != 0; ) {
                up = nodes.get(up).parent;
                if (up == directory) {
                    return true;
                }
            }
            return false;
        }

        int depth(int node) {
            return node == 0 ? 0 : 1 + depth(nodes.get(node).parent);
        }

        /** All charges, counted from the tree, in the order in which broken bounds are told. */
        Map<String, Integer> found() {
            Map<String, Integer> all = new java.util.LinkedHashMap<>();
            for (int t = 0; t < tenants.size(); t++) {
                if (!tenants.get(t).gone) {
                    all.put("t" + t, held(t));
                }
            }
            List<Integer> directories = new ArrayList<>();
            for (int d = 0; d < nodes.size(); d++) {
                if (nodes.get(d).directory) {
                    directories.add(d);
                }
            }
            directories.sort((a, b) -> depth(a) - depth(b));
            for (int d : directories) {
                all.put("d" + d, inDirectory(d));
            }
            for (int t = 0; t < tenants.size(); t++) {
                for (int k = 0; k < 4 && !tenants.get(t).gone; k++) {
                    all.put("k" + t + ":" + k, ofKind(t, k));
                }
            }
            for (int t = 0; t < tenants.size(); t++) {
                if (!tenants.get(t).gone) {
                    all.put("w" + t, written.getOrDefault("w" + t, 0));
                }
            }
            return all;
        }

        Map<String, Integer> kept() {
            Map<String, Integer> all = found();
            all.replaceAll((key, value) -> value + lost.getOrDefault(key, 0));
            return all;
        }

        int held(int tenant) {
            Set<Integer> held = new LinkedHashSet<>();
            for (Node n : nodes) {
                if (!n.directory && !n.gone && n.owner == tenant) {
                    held.add(n.content);
                }
            }
            for (Snapshot s : snapshots.values()) {
                if (s.tenant == tenant) {
                    held.addAll(s.contents);
                }
            }
            int sum = 0;
            for (int c : held) {
                sum += contentSizes.get(c);
            }
            for (Reservation r : reservations.values()) {
                sum += r.tenant == tenant ? r.size : 0;
            }
            return sum;
        }

        int inDirectory(int directory) {
            int sum = 0;
            for (int n : filesBelow(directory)) {
                sum += contentSizes.get(nodes.get(n).content);
            }
            for (Reservation r : reservations.values()) {
                sum += r.directory == directory || isAbove(directory, r.directory) ? r.size : 0;
            }
            return sum;
        }

        int ofKind(int tenant, int kind) {
            int sum = 0;
            for (Node n : nodes) {
                if (!n.directory && !n.gone && n.owner == tenant && n.kind == kind) {
                    sum += contentSizes.get(n.content);
                }
            }
            for (Reservation r : reservations.values()) {
                sum += r.tenant == tenant && r.kind == kind ? r.size : 0;
            }
            return sum;
        }

        List<Integer> filesBelow(int directory) {
            List<Integer> files = new ArrayList<>();
            for (int n = 1; n < nodes.size(); n++) {
                if (nodes.get(n).isFileInTree() && isAbove(directory, n)) {
                    files.add(n);
                }
            }
            return files;
        }

        void writeInto(Node file, int size) {
            file.content = contentSizes.size();
            contentSizes.add(size);
            file.toPack = false;
            written.merge("w" + file.owner, size, Integer::sum);
        }

        int addFile(int tenant, int directory, int kind, int size) {
            Node file = new Node();
            file.parent = directory;
            file.owner = tenant;
            file.kind = kind;
            nodes.add(file);
            writeInto(file, size);
            return nodes.size() - 1;
        }

        void lookAtGraces() {
            Map<String, Integer> kept = kept();
            for (String key : bounds.keySet()) {
                Bound b = bounds.get(key);
                Integer begun = kept.get(key) <= b.soft ? null : b.begun == null ? (Integer) day : b.begun;
                bounds.put(key, new Bound(b.soft, b.hard, b.grace, begun));
            }
        }
    }

    private State now = new State();
    private char reason = '-';

    Model() {
        Node top = new Node();
        top.directory = true;
        now.nodes.add(top);
    }

    private static void need(boolean holds, RuntimeException otherwise) {
        if (!holds) {
            throw otherwise;
        }
    }

    private static RuntimeException argument() {
        return new IllegalArgumentException();
    }

    private static RuntimeException index() {
        return new IndexOutOfBoundsException();
    }

    private static RuntimeException element() {
        return new NoSuchElementException();
    }

    private static RuntimeException state() {
        return new IllegalStateException();
    }

    private void needTenant(int t) {
        need(t >= 0 && t < now.tenants.size() && !now.tenants.get(t).gone, index());
    }

    private boolean isNode(int n) {
        return n >= 0 && n < now.nodes.size() && !now.nodes.get(n).inBin && !now.nodes.get(n).gone;
    }

    private boolean isDirectory(int d) {
        return isNode(d) && now.nodes.get(d).directory;
    }

    private Node file(int f) {
        need(isNode(f) && !isDirectory(f), element());
        return now.nodes.get(f);
    }

    private static boolean in(int x, int least, int most) {
        return least <= x && x <= most;
    }

    private static void needKindOfCharge(char which, int kind) {
        need("tdkw".indexOf(which) >= 0, argument());
        need(which != 'k' || in(kind, 0, 3), argument());
    }

    private String key(char which, int of, int kind) {
        if (which == 'd') {
            need(isDirectory(of), index());
        } else {
            needTenant(of);
        }
        return which == 'k' ? "k" + of + ":" + kind : "" + which + of;
    }

    /** Refuses what would come if a bound would be broken by it. */
    private void fit(State next) {
        Map<String, Integer> before = now.kept();
        Map<String, Integer> after = next.kept();
        for (String key : after.keySet()) {
            Bound b = now.bounds.get(key);
            if (b != null && after.get(key) > before.get(key) && b.isBrokenBy(after.get(key), now.day)) {
                reason = key.charAt(0);
                throw new UnsupportedOperationException();
            }
        }
    }

    private void become(State next) {
        next.lookAtGraces();
        now = next;
    }

    public int addTenant(int weight, int burst) {
        need(in(weight, 1, 9) && in(burst, 0, 99), argument());
        need(now.tenants.size() < 5, state());
        Tenant t = new Tenant();
        t.weight = weight;
        t.burst = burst;
        now.tenants.add(t);
        return now.tenants.size() - 1;
    }

    public int addDirectory(int directory) {
        need(isDirectory(directory), element());
        need(now.nodes.size() < 60, state());
        Node d = new Node();
        d.directory = true;
        d.parent = directory;
        now.nodes.add(d);
        return now.nodes.size() - 1;
    }

    public int setBound(char which, int of, int kind, int soft, int hard, int grace) {
        needKindOfCharge(which, kind);
        need(in(soft, 0, 9999) && in(hard, soft, 9999) && in(grace, 0, 99), argument());
        String key = key(which, of, kind);
        int kept = now.kept().get(key);
        now.bounds.put(key, new Bound(soft, hard, grace, kept > soft ? now.day : null));
        return kept;
    }

    public int charge(char which, int of, int kind) {
        needKindOfCharge(which, kind);
        return now.kept().get(key(which, of, kind));
    }

    public int chargeAnew(char which, int of, int kind) {
        needKindOfCharge(which, kind);
        return now.found().get(key(which, of, kind));
    }

    public char reason() {
        return reason;
    }

    public int graceLeft(char which, int of, int kind) {
        needKindOfCharge(which, kind);
        Bound b = now.bounds.get(key(which, of, kind));
        need(b != null && b.begun != null, element());
        return Math.max(b.begun + b.grace - now.day, 0);
    }

    public int make(int tenant, int directory, int kind, int size) {
        needTenant(tenant);
        need(isDirectory(directory), element());
        need(in(kind, 0, 3) && in(size, 1, 999), argument());
        State next = now.copy();
        int file = next.addFile(tenant, directory, kind, size);
        fit(next);
        need(now.nodes.size() < 60, state());
        become(next);
        return file;
    }

    public int write(int file, int size) {
        int before = now.contentSizes.get(file(file).content);
        need(in(size, 1, 999), argument());
        State next = now.copy();
        next.writeInto(next.nodes.get(file), size);
        fit(next);
        become(next);
        return before;
    }

    public int makeReserved(int reservation, int size) {
        need(now.reservations.containsKey(reservation), element());
        need(in(size, 1, 999), argument());
        State next = now.copy();
        Reservation r = next.reservations.remove(reservation);
        int file = next.addFile(r.tenant, r.directory, r.kind, size);
        fit(next);
        need(now.nodes.size() < 60, state());
        become(next);
        return file;
    }

    public int reserve(int tenant, int directory, int kind, int size, int days) {
        needTenant(tenant);
        need(isDirectory(directory), element());
        need(in(kind, 0, 3) && in(size, 1, 999) && in(days, 1, 20), argument());
        State next = now.copy();
        next.reservations.put(now.reservationsMade, new Reservation(tenant, directory, kind, size, now.day + days));
        next.reservationsMade++;
        fit(next);
        need(now.reservationsMade < 20, state());
        become(next);
        return now.reservationsMade - 1;
    }

    public int giveUp(int reservation) {
        need(now.reservations.containsKey(reservation), element());
        State next = now.copy();
        int size = next.reservations.remove(reservation).size;
        become(next);
        return size;
    }

    public int pack(int file) {
        Node f = file(file);
        need(!f.toPack, state());
        f.toPack = true;
        return half(now.contentSizes.get(f.content));
    }

    private static int half(int size) {
        return size / 2 + size % 2;
    }

    public int move(int node, int directory) {
        need(isNode(node) && isDirectory(directory) && node != 0, element());
        need(directory != node && !now.isAbove(node, directory), argument());
        need(now.nodes.get(node).parent != directory, argument());
        State next = now.copy();
        next.nodes.get(node).parent = directory;
        fit(next);
        become(next);
        int moved = 0;
        for (int n = 0; n < now.nodes.size(); n++) {
            moved += isNode(n) && (n == node || now.isAbove(node, n)) ? 1 : 0;
        }
        return moved;
    }

    public int give(int tenant, int directory, int other) {
        needTenant(tenant);
        needTenant(other);
        need(isDirectory(directory), element());
        need(tenant != other, argument());
        State next = now.copy();
        int given = 0;
        for (int n : next.filesBelow(directory)) {
            if (next.nodes.get(n).owner == tenant) {
                next.nodes.get(n).owner = other;
                given++;
            }
        }
        fit(next);
        become(next);
        return given;
    }

    public int delete(int file) {
        file(file);
        State next = now.copy();
        Node f = next.nodes.get(file);
        f.inBin = true;
        f.toPack = false;
        f.deletedOn = now.day;
        become(next);
        int bin = 0;
        for (Node n : now.nodes) {
            bin += n.inBin ? 1 : 0;
        }
        return bin;
    }

    public int restore(int file) {
        need(in(file, 0, now.nodes.size() - 1) && now.nodes.get(file).inBin, element());
        State next = now.copy();
        next.nodes.get(file).inBin = false;
        fit(next);
        become(next);
        return now.nodes.get(file).parent;
    }

    public int snapshot(int tenant, int directory) {
        needTenant(tenant);
        need(isDirectory(directory), element());
        State next = now.copy();
        Set<Integer> contents = new LinkedHashSet<>();
        for (int n : next.filesBelow(directory)) {
            contents.add(next.nodes.get(n).content);
        }
        next.snapshots.put(next.snapshotsMade++, new Snapshot(tenant, contents));
        fit(next);
        need(now.snapshotsMade < 10, state());
        become(next);
        return now.snapshotsMade - 1;
    }

    public int dropSnapshot(int snapshot) {
        need(now.snapshots.containsKey(snapshot), element());
        State next = now.copy();
        int tenant = next.snapshots.remove(snapshot).tenant;
        int less = now.held(tenant) - next.held(tenant);
        become(next);
        return less;
    }

    public int merge(int tenant, int into) {
        needTenant(tenant);
        needTenant(into);
        need(tenant != into, argument());
        State next = now.copy();
        for (Node n : next.nodes) {
            n.owner = !n.directory && n.owner == tenant ? into : n.owner;
        }
        next.reservations.replaceAll((number, r) -> r.tenant != tenant ? r
                : new Reservation(into, r.directory, r.kind, r.size, r.lastDay));
        next.snapshots.replaceAll((number, s) -> s.tenant != tenant ? s : new Snapshot(into, s.contents));
        next.written.merge("w" + into, next.written.getOrDefault("w" + tenant, 0), Integer::sum);
        Tenant from = next.tenants.get(tenant);
        Tenant to = next.tenants.get(into);
        for (int cost : from.requests) {
            if (to.requests.size() < 12) {
                to.requests.add(cost);
            }
        }
        to.credits += from.credits;
        from.gone = true;
        next.bounds.keySet().removeIf(key -> isOf(key, tenant));
        next.lost.keySet().removeIf(key -> isOf(key, tenant));
        become(next);
        return now.kept().get("t" + into);
    }

    private static boolean isOf(String key, int tenant) {
        return key.equals("t" + tenant) || key.equals("w" + tenant) || key.startsWith("k" + tenant + ":");
    }

    public int sizeOf(int file) {
        return now.contentSizes.get(file(file).content);
    }

    public int ownerOf(int file) {
        return file(file).owner;
    }

    public int parentOf(int node) {
        need(isNode(node) && node != 0, element());
        return now.nodes.get(node).parent;
    }

    public int below(int directory) {
        need(isDirectory(directory), element());
        return now.filesBelow(directory).size();
    }

    public int pass() {
        need(now.day < 200, state());
        State next = now.copy();
        next.day++;
        next.reservations.values().removeIf(r -> r.lastDay == next.day);
        for (Node n : next.nodes) {
            if (n.inBin && n.deletedOn + 5 == next.day) {
                n.inBin = false;
                n.gone = true;
            }
        }
        for (Node n : next.nodes) {
            if (n.toPack) {
                n.toPack = false;
                boolean inSnapshot = false;
                for (Snapshot s : next.snapshots.values()) {
                    inSnapshot |= s.contents.contains(n.content);
                }
                if (!inSnapshot) {
                    next.contentSizes.add(half(next.contentSizes.get(n.content)));
                    n.content = next.contentSizes.size() - 1;
                }
            }
        }
        next.written.clear();
        become(next);
        return now.day;
    }

    public int request(int tenant, int cost) {
        needTenant(tenant);
        need(in(cost, 1, 99), argument());
        need(now.tenants.get(tenant).requests.size() < 12, state());
        now.tenants.get(tenant).requests.add(cost);
        return now.tenants.get(tenant).requests.size();
    }

    public int round() {
        int served = 0;
        for (Tenant t : now.tenants) {
            if (t.gone) {
                continue;
            }
            if (t.requests.isEmpty()) {
                if (t.credits < 0) {
                    t.credits = Math.min(t.credits + t.weight, 0);
                }
            } else {
                t.credits += 10 * t.weight;
            }
            while (!t.requests.isEmpty() && t.requests.get(0) <= t.credits + t.burst) {
                int cost = t.requests.remove(0);
                t.credits -= cost;
                t.served += cost;
                served++;
            }
            if (t.requests.isEmpty()) {
                t.credits = Math.min(t.credits, 0);
            }
        }
        return served;
    }

    public int credits(int tenant) {
        needTenant(tenant);
        return now.tenants.get(tenant).credits;
    }

    public long served(int tenant) {
        needTenant(tenant);
        return now.tenants.get(tenant).served;
    }

    public int lose(char which, int of, int kind, int change) {
        needKindOfCharge(which, kind);
        need(which != 'w' && in(change, -99, 99), argument());
        String key = key(which, of, kind);
        now.lost.merge(key, change, Integer::sum);
        return now.kept().get(key);
    }

    public int audit() {
        State next = now.copy();
        int wrong = wrong();
        next.lost.clear();
        become(next);
        return wrong;
    }

    private int wrong() {
        int wrong = 0;
        for (int lost : now.lost.values()) {
            wrong += lost != 0 ? 1 : 0;
        }
        return wrong;
    }

    public int breaches() {
        Map<String, Integer> kept = now.kept();
        int count = 0;
        for (String key : now.bounds.keySet()) {
            count += now.bounds.get(key).isBrokenBy(kept.get(key), now.day) ? 1 : 0;
        }
        return count;
    }

    public float fairness() {
        List<Long> sums = new ArrayList<>();
        for (Tenant t : now.tenants) {
            if (!t.gone) {
                sums.add(t.served);
            }
        }
        sums.sort(Long::compare);
        need(!sums.isEmpty() && sums.get(sums.size() - 1) != 0, element());
        return (float) (long) sums.get(0) / (float) (long) sums.get(sums.size() - 1);
    }

    public boolean isSound() {
        return wrong() == 0;
    }
}
