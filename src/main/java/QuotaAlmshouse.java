import java.util.ArrayList;
import java.util.NoSuchElementException;

/** A house of files for many tenants. */
public final class QuotaAlmshouse {
    private static final int MOST_TENANTS = 5;
    private static final int MOST_NODES = 60;
    private static final int MOST_RESERVATIONS = 20;
    private static final int MOST_SNAPSHOTS = 10;
    private static final int MOST_REQUESTS = 12;
    private static final int KINDS = 4;
    private static final int MOST_WEIGHT = 9;
    private static final int MOST_BURST = 99;
    private static final int MOST_BOUND = 9999;
    private static final int MOST_GRACE = 99;
    private static final int MOST_SIZE = 999;
    private static final int MOST_DAYS_AHEAD = 20;
    private static final int MOST_COST = 99;
    private static final int MOST_CHANGE = 99;
    private static final int LAST_DAY = 200;
    private static final int DAYS_IN_BIN = 5;
    private static final int CREDITS_PER_WEIGHT = 10;

    private static final int IN_TREE = 0;
    private static final int IN_BIN = 1;
    private static final int GONE = 2;

    private static final int NOT_BEGUN = -1;

    private static final char HELD = 't';
    private static final char TREE = 'd';
    private static final char KIND = 'k';
    private static final char WRITTEN = 'w';
    private static final char NO_REASON = '-';

    private final ArrayList<Tenant> tenants = new ArrayList<>();
    private final ArrayList<Node> nodes = new ArrayList<>();
    private final ArrayList<Content> contents = new ArrayList<>();
    private final ArrayList<Reservation> reservations = new ArrayList<>();
    private final ArrayList<Charge> charges = new ArrayList<>();
    private final int[] sizesByKind = new int[KINDS];
    private int snapshotsMade = 0;
    private int today = 0;
    private char lastReason = NO_REASON;

    /** A charge as it is kept, with its bound, if it has one. */
    private static final class Charge {
        int kept = 0;
        int found = 0;
        private boolean bounded = false;
        private int soft = 0;
        private int hard = 0;
        private int grace = 0;
        private int begunOn = NOT_BEGUN;

        void bind(int softNumber, int hardNumber, int daysOfGrace, int day) {
            bounded = true;
            soft = softNumber;
            hard = hardNumber;
            grace = daysOfGrace;
            begunOn = NOT_BEGUN;
            look(day);
        }

        void end() {
            kept = 0;
            bounded = false;
            begunOn = NOT_BEGUN;
        }

        /** Lets the grace begin or end, as the charge now is. */
        void look(int day) {
            if (!bounded || kept <= soft) {
                begunOn = NOT_BEGUN;
            } else if (begunOn == NOT_BEGUN) {
                begunOn = day;
            }
        }

        boolean hasGraceBegun() {
            return begunOn != NOT_BEGUN;
        }

        int daysLeft(int day) {
            return Math.max(0, begunOn + grace - day);
        }

        boolean wouldBreak(int more, int day) {
            return more > 0 && isTooGreat(kept + more, day);
        }

        boolean isBreached(int day) {
            return isTooGreat(kept, day);
        }

        private boolean isTooGreat(int number, int day) {
            if (!bounded) {
                return false;
            }
            boolean graceIsOver = hasGraceBegun() && daysLeft(day) == 0;
            return number > hard || (number > soft && graceIsOver);
        }
    }

    /** A tenant with its charges and its row of requests. */
    private static final class Tenant {
        final int number;
        private final int weight;
        private final int burst;
        boolean gone = false;
        final Charge total = new Charge();
        final Charge[] kinds = new Charge[KINDS];
        final Charge written = new Charge();
        /** A bit for each snapshot of this tenant that was not dropped. */
        int snapshots = 0;
        private final int[] requests = new int[MOST_REQUESTS];
        int waiting = 0;
        int credit = 0;
        long servedCosts = 0;

        Tenant(int itsNumber, int itsWeight, int itsBurst) {
            number = itsNumber;
            weight = itsWeight;
            burst = itsBurst;
            for (int kind = 0; kind < KINDS; kind++) {
                kinds[kind] = new Charge();
            }
        }

        boolean hasInSnapshot(Content content) {
            return (content.snapshots & snapshots) != 0;
        }

        boolean hasRoomForRequest() {
            return waiting < MOST_REQUESTS;
        }

        void line(int cost) {
            if (hasRoomForRequest()) {
                requests[waiting] = cost;
                waiting++;
            }
        }

        /** Has its turn in a round, and returns how many requests were served. */
        int takeTurn() {
            if (waiting > 0) {
                credit += CREDITS_PER_WEIGHT * weight;
            } else if (credit < 0) {
                credit = Math.min(0, credit + weight);
            }
            int done = 0;
            while (done < waiting && requests[done] <= credit + burst) {
                credit -= requests[done];
                servedCosts += requests[done];
                done++;
            }
            System.arraycopy(requests, done, requests, 0, waiting - done);
            waiting -= done;
            if (waiting == 0 && credit > 0) {
                credit = 0;
            }
            return done;
        }

        void takeRequestsOf(Tenant other) {
            for (int i = 0; i < other.waiting; i++) {
                line(other.requests[i]);
            }
            credit += other.credit;
        }

        void leave() {
            gone = true;
            total.end();
            written.end();
            for (int kind = 0; kind < KINDS; kind++) {
                kinds[kind].end();
            }
        }
    }

    /** A file or a directory; the top alone has no parent. */
    private abstract static class Node {
        final int number;
        Directory parent;

        Node(int itsNumber, Directory itsParent) {
            number = itsNumber;
            parent = itsParent;
        }

        abstract boolean isInTree();

        boolean isBelow(Node other) {
            for (Directory above = parent; above != null; above = above.parent) {
                if (above == other) {
                    return true;
                }
            }
            return false;
        }
    }

    private static final class Directory extends Node {
        final Charge sum = new Charge();

        Directory(int itsNumber, Directory itsParent) {
            super(itsNumber, itsParent);
        }

        boolean isInTree() {
            return true;
        }
    }

    /** A file; outside the tree its parent is the directory in which it was. */
    private static final class StoredFile extends Node {
        Tenant owner;
        final int kind;
        Content content;
        int state = IN_TREE;
        int deletedOn = 0;
        boolean toPack = false;

        StoredFile(int itsNumber, Directory itsParent, Tenant itsOwner, int itsKind, int size) {
            super(itsNumber, itsParent);
            owner = itsOwner;
            kind = itsKind;
            content = new Content(size);
        }

        boolean isInTree() {
            return state == IN_TREE;
        }

        int packedSize() {
            return (content.size + 1) / 2;
        }
    }

    private static final class Content {
        final int size;
        /** The file whose content it is, or null if it is in snapshots alone. */
        StoredFile file = null;
        /** A bit for each snapshot that has it. */
        int snapshots = 0;

        Content(int itsSize) {
            size = itsSize;
        }

        boolean isHeld() {
            return file != null || snapshots != 0;
        }

        boolean isHeldBy(Tenant tenant) {
            return (file != null && file.owner == tenant) || tenant.hasInSnapshot(this);
        }
    }

    private static final class Reservation {
        Tenant tenant;
        final Directory directory;
        final int kind;
        final int size;
        final int lastDay;
        boolean open = true;

        Reservation(Tenant itsTenant, Directory itsDirectory, int itsKind, int itsSize, int itsLastDay) {
            tenant = itsTenant;
            directory = itsDirectory;
            kind = itsKind;
            size = itsSize;
            lastDay = itsLastDay;
        }
    }

    public QuotaAlmshouse() {
        newDirectory(null);
    }

    // Tenants, tree, bounds

    public int addTenant(int weight, int burst)
            throws IllegalArgumentException, IllegalStateException {
        if (!isIn(weight, 1, MOST_WEIGHT) || !isIn(burst, 0, MOST_BURST)) {
            throw new IllegalArgumentException("a number is out of range");
        }
        if (tenants.size() >= MOST_TENANTS) {
            throw new IllegalStateException("there were 5 tenants");
        }
        Tenant tenant = new Tenant(tenants.size(), weight, burst);
        tenants.add(tenant);
        charges.add(tenant.total);
        charges.add(tenant.written);
        for (int kind = 0; kind < KINDS; kind++) {
            charges.add(tenant.kinds[kind]);
        }
        return tenant.number;
    }

    public int addDirectory(int directory)
            throws NoSuchElementException, IllegalStateException {
        Directory parent = directoryAt(directory);
        needRoomForNode();
        return newDirectory(parent).number;
    }

    public int setBound(char which, int of, int kind, int soft, int hard, int grace)
            throws IllegalArgumentException, IndexOutOfBoundsException {
        needChargeKind(which, kind);
        if (!isIn(soft, 0, MOST_BOUND) || !isIn(hard, soft, MOST_BOUND) || !isIn(grace, 0, MOST_GRACE)) {
            throw new IllegalArgumentException("a number is out of range");
        }
        Charge bounded = chargeAt(which, of, kind);
        bounded.bind(soft, hard, grace, today);
        return bounded.kept;
    }

    public int charge(char which, int of, int kind)
            throws IllegalArgumentException, IndexOutOfBoundsException {
        needChargeKind(which, kind);
        return chargeAt(which, of, kind).kept;
    }

    public int chargeAnew(char which, int of, int kind)
            throws IllegalArgumentException, IndexOutOfBoundsException {
        needChargeKind(which, kind);
        Charge asked = chargeAt(which, of, kind);
        findCharges();
        return asked.found;
    }

    public char reason() {
        return lastReason;
    }

    public int graceLeft(char which, int of, int kind)
            throws IllegalArgumentException, IndexOutOfBoundsException, NoSuchElementException {
        needChargeKind(which, kind);
        Charge asked = chargeAt(which, of, kind);
        if (!asked.hasGraceBegun()) {
            throw new NoSuchElementException("no such bound, or its grace has not begun");
        }
        return asked.daysLeft(today);
    }

    // Files

    public int make(int tenant, int directory, int kind, int size)
            throws IndexOutOfBoundsException, NoSuchElementException, IllegalArgumentException,
            UnsupportedOperationException, IllegalStateException {
        Tenant owner = tenantAt(tenant);
        Directory place = directoryAt(directory);
        if (!isKind(kind) || !isSize(size)) {
            throw new IllegalArgumentException("the kind or the size is out of range");
        }
        refuseUnlessHeldFits(owner, size);
        refuseUnlessTreeFits(place, null, size);
        refuseUnlessKindFits(owner, kind, size);
        refuseUnlessWrittenFits(owner, size);
        needRoomForNode();
        int number = newFile(owner, place, kind, size);
        lookAtGraces();
        return number;
    }

    public int write(int file, int size)
            throws NoSuchElementException, IllegalArgumentException, UnsupportedOperationException {
        StoredFile written = fileAt(file);
        needSize(size);
        Tenant owner = written.owner;
        Content old = written.content;
        int more = size - old.size;
        refuseUnlessHeldFits(owner, owner.hasInSnapshot(old) ? size : more);
        refuseUnlessTreeFits(written.parent, null, more);
        refuseUnlessKindFits(owner, written.kind, more);
        refuseUnlessWrittenFits(owner, size);
        replaceContent(written, size);
        written.toPack = false;
        owner.written.kept += size;
        forgetUnheldContents();
        lookAtGraces();
        return old.size;
    }

    public int makeReserved(int reservation, int size)
            throws NoSuchElementException, IllegalArgumentException, UnsupportedOperationException,
            IllegalStateException {
        Reservation used = reservationAt(reservation);
        needSize(size);
        int more = size - used.size;
        refuseUnlessHeldFits(used.tenant, more);
        refuseUnlessTreeFits(used.directory, null, more);
        refuseUnlessKindFits(used.tenant, used.kind, more);
        refuseUnlessWrittenFits(used.tenant, size);
        needRoomForNode();
        endReservation(used);
        int number = newFile(used.tenant, used.directory, used.kind, size);
        lookAtGraces();
        return number;
    }

    public int reserve(int tenant, int directory, int kind, int size, int days)
            throws IndexOutOfBoundsException, NoSuchElementException, IllegalArgumentException,
            UnsupportedOperationException, IllegalStateException {
        Tenant holder = tenantAt(tenant);
        Directory place = directoryAt(directory);
        if (!isKind(kind) || !isSize(size) || !isIn(days, 1, MOST_DAYS_AHEAD)) {
            throw new IllegalArgumentException("a number is out of range");
        }
        refuseUnlessHeldFits(holder, size);
        refuseUnlessTreeFits(place, null, size);
        refuseUnlessKindFits(holder, kind, size);
        if (reservations.size() >= MOST_RESERVATIONS) {
            throw new IllegalStateException("there were 20 reservations");
        }
        int number = reservations.size();
        reservations.add(new Reservation(holder, place, kind, size, today + days));
        addToCharges(holder, place, kind, size);
        lookAtGraces();
        return number;
    }

    public int giveUp(int reservation)
            throws NoSuchElementException {
        Reservation ended = reservationAt(reservation);
        endReservation(ended);
        lookAtGraces();
        return ended.size;
    }

    public int pack(int file)
            throws NoSuchElementException, IllegalStateException {
        StoredFile packed = fileAt(file);
        if (packed.toPack) {
            throw new IllegalStateException("it is to be packed");
        }
        packed.toPack = true;
        return packed.packedSize();
    }

    public int move(int node, int directory)
            throws NoSuchElementException, IllegalArgumentException, UnsupportedOperationException {
        Node moved = nodeBelowTopAt(node);
        Directory place = directoryAt(directory);
        if (place == moved || place.isBelow(moved) || place == moved.parent) {
            throw new IllegalArgumentException("the directory is the node, or below it, or its parent");
        }
        Directory common = lowestAbove(moved, place);
        int size = sizeOfAllIn(moved);
        refuseUnlessTreeFits(place, common, size);
        int count = countNodesIn(moved);
        addUpwards(moved.parent, common, -size);
        addUpwards(place, common, size);
        moved.parent = place;
        lookAtGraces();
        return count;
    }

    public int give(int tenant, int directory, int other)
            throws IndexOutOfBoundsException, NoSuchElementException, IllegalArgumentException,
            UnsupportedOperationException {
        Tenant giver = tenantAt(tenant);
        Tenant taker = tenantAt(other);
        Directory place = directoryAt(directory);
        if (giver == taker) {
            throw new IllegalArgumentException("both tenants are the same");
        }
        refuseUnlessGiftFits(giver, place, taker);
        int count = 0;
        for (int i = 0; i < nodes.size(); i++) {
            if (nodes.get(i) instanceof StoredFile file && isOwnedIn(file, giver, place)) {
                handOver(file, taker);
                count++;
            }
        }
        lookAtGraces();
        return count;
    }

    public int delete(int file)
            throws NoSuchElementException {
        StoredFile deleted = fileAt(file);
        deleted.state = IN_BIN;
        deleted.deletedOn = today;
        deleted.toPack = false;
        addUpwards(deleted.parent, null, -deleted.content.size);
        lookAtGraces();
        return countFilesInBin();
    }

    public int restore(int file)
            throws NoSuchElementException, UnsupportedOperationException {
        StoredFile restored = anyFileAt(file);
        if (restored == null || restored.state != IN_BIN) {
            throw new NoSuchElementException("no such file in the bin");
        }
        int size = restored.content.size;
        refuseUnlessTreeFits(restored.parent, null, size);
        restored.state = IN_TREE;
        addUpwards(restored.parent, null, size);
        lookAtGraces();
        return restored.parent.number;
    }

    public int snapshot(int tenant, int directory)
            throws IndexOutOfBoundsException, NoSuchElementException, UnsupportedOperationException,
            IllegalStateException {
        Tenant maker = tenantAt(tenant);
        Directory place = directoryAt(directory);
        int more = sizeNotHeldIn(place, maker);
        refuseUnlessHeldFits(maker, more);
        if (snapshotsMade >= MOST_SNAPSHOTS) {
            throw new IllegalStateException("there were 10 snapshots");
        }
        int number = snapshotsMade;
        snapshotsMade++;
        putIntoSnapshot(place, bitOf(number));
        maker.snapshots |= bitOf(number);
        maker.total.kept += more;
        lookAtGraces();
        return number;
    }

    public int dropSnapshot(int snapshot)
            throws NoSuchElementException {
        Tenant maker = makerOfSnapshot(snapshot);
        int heldBefore = sizeHeldBy(maker);
        takeOutOfSnapshot(bitOf(snapshot));
        maker.snapshots &= ~bitOf(snapshot);
        int less = heldBefore - sizeHeldBy(maker);
        maker.total.kept -= less;
        forgetUnheldContents();
        lookAtGraces();
        return less;
    }

    public int merge(int tenant, int into)
            throws IndexOutOfBoundsException, IllegalArgumentException {
        Tenant leaver = tenantAt(tenant);
        Tenant heir = tenantAt(into);
        if (leaver == heir) {
            throw new IllegalArgumentException("both tenants are the same");
        }
        // The heir takes what is found for the leaver, not what is kept: what was lost is gone.
        findCharges();
        int heldBefore = heir.total.found;
        for (int kind = 0; kind < KINDS; kind++) {
            heir.kinds[kind].kept += leaver.kinds[kind].found;
        }
        bequeath(leaver, heir);
        findCharges();
        heir.total.kept += heir.total.found - heldBefore;
        heir.written.kept += leaver.written.kept;
        heir.takeRequestsOf(leaver);
        leaver.leave();
        lookAtGraces();
        return heir.total.kept;
    }

    public int sizeOf(int file)
            throws NoSuchElementException {
        return fileAt(file).content.size;
    }

    public int ownerOf(int file)
            throws NoSuchElementException {
        return fileAt(file).owner.number;
    }

    public int parentOf(int node)
            throws NoSuchElementException {
        return nodeBelowTopAt(node).parent.number;
    }

    public int below(int directory)
            throws NoSuchElementException {
        Directory place = directoryAt(directory);
        int count = 0;
        for (int i = 0; i < nodes.size(); i++) {
            if (nodes.get(i) instanceof StoredFile file && isFileIn(file, place)) {
                count++;
            }
        }
        return count;
    }

    // Days and requests

    public int pass()
            throws IllegalStateException {
        if (today >= LAST_DAY) {
            throw new IllegalStateException("it is the day 200");
        }
        today++;
        endDueReservations();
        emptyBin();
        packFiles();
        for (int i = 0; i < tenants.size(); i++) {
            tenants.get(i).written.kept = 0;
        }
        forgetUnheldContents();
        lookAtGraces();
        return today;
    }

    public int request(int tenant, int cost)
            throws IndexOutOfBoundsException, IllegalArgumentException, IllegalStateException {
        Tenant asker = tenantAt(tenant);
        if (!isIn(cost, 1, MOST_COST)) {
            throw new IllegalArgumentException("the cost is out of range");
        }
        if (!asker.hasRoomForRequest()) {
            throw new IllegalStateException("it has 12 requests");
        }
        asker.line(cost);
        return asker.waiting;
    }

    public int round() {
        int done = 0;
        for (int i = 0; i < tenants.size(); i++) {
            Tenant tenant = tenants.get(i);
            if (!tenant.gone) {
                done += tenant.takeTurn();
            }
        }
        return done;
    }

    public int credits(int tenant)
            throws IndexOutOfBoundsException {
        return tenantAt(tenant).credit;
    }

    public long served(int tenant)
            throws IndexOutOfBoundsException {
        return tenantAt(tenant).servedCosts;
    }

    // Drift and figures

    public int lose(char which, int of, int kind, int change)
            throws IllegalArgumentException, IndexOutOfBoundsException {
        needChargeKind(which, kind);
        if (which == WRITTEN || !isIn(change, -MOST_CHANGE, MOST_CHANGE)) {
            throw new IllegalArgumentException("it is 'w', or the change is out of range");
        }
        Charge changed = chargeAt(which, of, kind);
        changed.kept += change;
        return changed.kept;
    }

    public int audit() {
        findCharges();
        int wrong = 0;
        for (int i = 0; i < charges.size(); i++) {
            Charge looked = charges.get(i);
            if (looked.kept != looked.found) {
                looked.kept = looked.found;
                wrong++;
            }
        }
        lookAtGraces();
        return wrong;
    }

    public int breaches() {
        int count = 0;
        for (int i = 0; i < charges.size(); i++) {
            if (charges.get(i).isBreached(today)) {
                count++;
            }
        }
        return count;
    }

    public float fairness()
            throws NoSuchElementException {
        long greatest = 0;
        for (int i = 0; i < tenants.size(); i++) {
            greatest = tenants.get(i).gone ? greatest : Math.max(greatest, tenants.get(i).servedCosts);
        }
        if (greatest == 0) {
            throw new NoSuchElementException("there are no tenants, or nothing was served");
        }
        long least = greatest;
        for (int i = 0; i < tenants.size(); i++) {
            least = tenants.get(i).gone ? least : Math.min(least, tenants.get(i).servedCosts);
        }
        return (float) least / (float) greatest;
    }

    public boolean isSound() {
        findCharges();
        for (int i = 0; i < charges.size(); i++) {
            if (charges.get(i).kept != charges.get(i).found) {
                return false;
            }
        }
        return true;
    }

    // What is asked for, found by its number

    private static boolean isIn(int number, int least, int most) {
        return number >= least && number <= most;
    }

    private static boolean isKind(int kind) {
        return isIn(kind, 0, KINDS - 1);
    }

    private static boolean isSize(int size) {
        return isIn(size, 1, MOST_SIZE);
    }

    private static void needSize(int size) {
        if (!isSize(size)) {
            throw new IllegalArgumentException("the size is out of range");
        }
    }

    private static void needChargeKind(char which, int kind) {
        if (which != HELD && which != TREE && which != KIND && which != WRITTEN) {
            throw new IllegalArgumentException("no such kind of charge");
        }
        if (which == KIND && !isKind(kind)) {
            throw new IllegalArgumentException("no such kind");
        }
    }

    private void needRoomForNode() {
        if (nodes.size() >= MOST_NODES) {
            throw new IllegalStateException("there are 60 nodes");
        }
    }

    private Tenant tenantAt(int number) {
        if (!isIn(number, 0, tenants.size() - 1) || tenants.get(number).gone) {
            throw new IndexOutOfBoundsException("no such tenant, or it is gone");
        }
        return tenants.get(number);
    }

    private Charge chargeAt(char which, int of, int kind) {
        if (which == TREE) {
            Directory directory = directoryOrNull(of);
            if (directory == null) {
                throw new IndexOutOfBoundsException("no such directory");
            }
            return directory.sum;
        }
        Tenant tenant = tenantAt(of);
        if (which == HELD) {
            return tenant.total;
        }
        return which == KIND && isKind(kind) ? tenant.kinds[kind] : tenant.written;
    }

    private Node nodeOrNull(int number) {
        return isIn(number, 0, nodes.size() - 1) ? nodes.get(number) : null;
    }

    private Directory directoryOrNull(int number) {
        return nodeOrNull(number) instanceof Directory directory ? directory : null;
    }

    private Directory directoryAt(int number) {
        Directory directory = directoryOrNull(number);
        if (directory == null) {
            throw new NoSuchElementException("no such directory");
        }
        return directory;
    }

    private StoredFile anyFileAt(int number) {
        return nodeOrNull(number) instanceof StoredFile file ? file : null;
    }

    private StoredFile fileAt(int number) {
        StoredFile file = anyFileAt(number);
        if (file == null || !file.isInTree()) {
            throw new NoSuchElementException("no such file, or it is in the bin or gone");
        }
        return file;
    }

    private Node nodeBelowTopAt(int number) {
        Node node = nodeOrNull(number);
        if (node == null || !node.isInTree() || node.parent == null) {
            throw new NoSuchElementException("no such node, or it is in the bin or gone, or the top");
        }
        return node;
    }

    private Reservation reservationAt(int number) {
        if (!isIn(number, 0, reservations.size() - 1) || !reservations.get(number).open) {
            throw new NoSuchElementException("no such reservation");
        }
        return reservations.get(number);
    }

    private Tenant makerOfSnapshot(int number) {
        if (isIn(number, 0, snapshotsMade - 1)) {
            for (int i = 0; i < tenants.size(); i++) {
                if ((tenants.get(i).snapshots & bitOf(number)) != 0) {
                    return tenants.get(i);
                }
            }
        }
        throw new NoSuchElementException("no such snapshot, or it was dropped");
    }

    private static int bitOf(int snapshot) {
        return 1 << snapshot;
    }

    // Fitting: each act asks in the order 't', 'd', 'k', 'w', so that the first one is told

    private void refuseUnlessHeldFits(Tenant tenant, int more) {
        refuseIf(tenant.total.wouldBreak(more, today), HELD);
    }

    /** Looks at a directory and those above it, below the given end; null stands for none. */
    private void refuseUnlessTreeFits(Directory lowest, Directory end, int more) {
        for (Directory place = lowest; place != null && place != end; place = place.parent) {
            // The reason is the same for each directory, so that their order need not be kept.
            refuseIf(place.sum.wouldBreak(more, today), TREE);
        }
    }

    private void refuseUnlessKindFits(Tenant tenant, int kind, int more) {
        refuseIf(tenant.kinds[kind].wouldBreak(more, today), KIND);
    }

    private void refuseUnlessWrittenFits(Tenant tenant, int more) {
        refuseIf(tenant.written.wouldBreak(more, today), WRITTEN);
    }

    private void refuseUnlessGiftFits(Tenant giver, Directory place, Tenant taker) {
        int heldMore = 0;
        for (int kind = 0; kind < KINDS; kind++) {
            sizesByKind[kind] = 0;
        }
        for (int i = 0; i < nodes.size(); i++) {
            if (nodes.get(i) instanceof StoredFile file && isOwnedIn(file, giver, place)) {
                sizesByKind[file.kind] += file.content.size;
                heldMore += taker.hasInSnapshot(file.content) ? 0 : file.content.size;
            }
        }
        refuseUnlessHeldFits(taker, heldMore);
        for (int kind = 0; kind < KINDS; kind++) {
            refuseUnlessKindFits(taker, kind, sizesByKind[kind]);
        }
    }

    private void refuseIf(boolean broken, char which) {
        if (broken) {
            lastReason = which;
            throw new UnsupportedOperationException("a bound would be broken");
        }
    }

    private void lookAtGraces() {
        for (int i = 0; i < charges.size(); i++) {
            charges.get(i).look(today);
        }
    }

    // What is kept of the charges

    private void addUpwards(Directory lowest, Directory end, int more) {
        for (Directory place = lowest; place != null && place != end; place = place.parent) {
            place.sum.kept += more;
        }
    }

    private void addToCharges(Tenant tenant, Directory place, int kind, int more) {
        tenant.total.kept += more;
        tenant.kinds[kind].kept += more;
        addUpwards(place, null, more);
    }

    // What is found from the tree

    private void findCharges() {
        for (int i = 0; i < charges.size(); i++) {
            charges.get(i).found = 0;
        }
        for (int i = 0; i < tenants.size(); i++) {
            Tenant tenant = tenants.get(i);
            tenant.written.found = tenant.written.kept;
            tenant.total.found = sizeHeldBy(tenant);
        }
        for (int i = 0; i < nodes.size(); i++) {
            if (nodes.get(i) instanceof StoredFile file) {
                findFile(file);
            }
        }
        for (int i = 0; i < reservations.size(); i++) {
            if (reservations.get(i).open) {
                findReservation(reservations.get(i));
            }
        }
    }

    private int sizeHeldBy(Tenant tenant) {
        int size = 0;
        for (int i = 0; i < contents.size(); i++) {
            if (contents.get(i).isHeldBy(tenant)) {
                size += contents.get(i).size;
            }
        }
        return size;
    }

    private static void findFile(StoredFile file) {
        if (file.state != GONE) {
            file.owner.kinds[file.kind].found += file.content.size;
        }
        if (file.isInTree()) {
            findUpwards(file.parent, file.content.size);
        }
    }

    private static void findReservation(Reservation reservation) {
        reservation.tenant.total.found += reservation.size;
        reservation.tenant.kinds[reservation.kind].found += reservation.size;
        findUpwards(reservation.directory, reservation.size);
    }

    private static void findUpwards(Directory lowest, int size) {
        for (Directory place = lowest; place != null; place = place.parent) {
            place.sum.found += size;
        }
    }

    // Nodes

    private Directory newDirectory(Directory parent) {
        Directory directory = new Directory(nodes.size(), parent);
        nodes.add(directory);
        charges.add(directory.sum);
        return directory;
    }

    private int newFile(Tenant owner, Directory place, int kind, int size) {
        StoredFile file = new StoredFile(nodes.size(), place, owner, kind, size);
        nodes.add(file);
        file.content.file = file;
        contents.add(file.content);
        addToCharges(owner, place, kind, size);
        owner.written.kept += size;
        return file.number;
    }

    private static boolean isFileIn(StoredFile file, Directory place) {
        return file.isInTree() && file.isBelow(place);
    }

    private static boolean isOwnedIn(StoredFile file, Tenant owner, Directory place) {
        return file.owner == owner && isFileIn(file, place);
    }

    private int countNodesIn(Node moved) {
        int count = 1;
        for (int i = 0; i < nodes.size(); i++) {
            Node node = nodes.get(i);
            if (node.isInTree() && node.isBelow(moved)) {
                count++;
            }
        }
        return count;
    }

    private int sizeOfAllIn(Node moved) {
        if (moved instanceof StoredFile file) {
            return file.content.size;
        }
        if (moved instanceof Directory directory) {
            findCharges();
            return directory.sum.found;
        }
        return 0;
    }

    /** Returns the lowest directory that is above the node and is the place or above it. */
    private static Directory lowestAbove(Node node, Directory place) {
        for (Directory above = place; above != null; above = above.parent) {
            if (node.isBelow(above)) {
                return above;
            }
        }
        return null;
    }

    private int countFilesInBin() {
        int count = 0;
        for (int i = 0; i < nodes.size(); i++) {
            if (nodes.get(i) instanceof StoredFile file && file.state == IN_BIN) {
                count++;
            }
        }
        return count;
    }

    // Contents

    private void replaceContent(StoredFile file, int size) {
        Content old = file.content;
        Content fresh = new Content(size);
        file.content = fresh;
        fresh.file = file;
        contents.add(fresh);
        addToCharges(file.owner, file.parent, file.kind, size - old.size);
        old.file = null;
        // The owner goes on being charged for the old one if a snapshot of its own has it.
        if (file.owner.hasInSnapshot(old)) {
            file.owner.total.kept += old.size;
        }
    }

    private void forgetUnheldContents() {
        for (int i = contents.size() - 1; i >= 0; i--) {
            if (!contents.get(i).isHeld()) {
                contents.remove(i);
            }
        }
    }

    private int sizeNotHeldIn(Directory place, Tenant tenant) {
        int size = 0;
        for (int i = 0; i < nodes.size(); i++) {
            if (nodes.get(i) instanceof StoredFile file && isFileIn(file, place)) {
                size += file.content.isHeldBy(tenant) ? 0 : file.content.size;
            }
        }
        return size;
    }

    private void putIntoSnapshot(Directory place, int bit) {
        for (int i = 0; i < nodes.size(); i++) {
            if (nodes.get(i) instanceof StoredFile file && isFileIn(file, place)) {
                file.content.snapshots |= bit;
            }
        }
    }

    private void takeOutOfSnapshot(int bit) {
        for (int i = 0; i < contents.size(); i++) {
            contents.get(i).snapshots &= ~bit;
        }
    }

    // Owners

    private static void handOver(StoredFile file, Tenant taker) {
        Tenant giver = file.owner;
        int size = file.content.size;
        // A snapshot of its own charges a tenant for the content, whoever owns the file.
        giver.total.kept -= giver.hasInSnapshot(file.content) ? 0 : size;
        taker.total.kept += taker.hasInSnapshot(file.content) ? 0 : size;
        giver.kinds[file.kind].kept -= size;
        taker.kinds[file.kind].kept += size;
        file.owner = taker;
    }

    private void bequeath(Tenant leaver, Tenant heir) {
        for (int i = 0; i < nodes.size(); i++) {
            if (nodes.get(i) instanceof StoredFile file && file.owner == leaver) {
                file.owner = heir;
            }
        }
        for (int i = 0; i < reservations.size(); i++) {
            if (reservations.get(i).tenant == leaver) {
                reservations.get(i).tenant = heir;
            }
        }
        heir.snapshots |= leaver.snapshots;
        leaver.snapshots = 0;
    }

    // What a day begins with, and what ends by it

    private void endReservation(Reservation ended) {
        ended.open = false;
        addToCharges(ended.tenant, ended.directory, ended.kind, -ended.size);
    }

    private void endDueReservations() {
        for (int i = 0; i < reservations.size(); i++) {
            if (reservations.get(i).open && reservations.get(i).lastDay <= today) {
                endReservation(reservations.get(i));
            }
        }
    }

    private void emptyBin() {
        for (int i = 0; i < nodes.size(); i++) {
            if (nodes.get(i) instanceof StoredFile file && file.state == IN_BIN
                    && file.deletedOn + DAYS_IN_BIN <= today) {
                endFile(file);
            }
        }
    }

    private static void endFile(StoredFile file) {
        int size = file.content.size;
        file.state = GONE;
        file.content.file = null;
        file.owner.kinds[file.kind].kept -= size;
        file.owner.total.kept -= file.owner.hasInSnapshot(file.content) ? 0 : size;
    }

    private void packFiles() {
        for (int i = 0; i < nodes.size(); i++) {
            if (nodes.get(i) instanceof StoredFile file && file.toPack) {
                file.toPack = false;
                if (file.content.snapshots == 0) {
                    replaceContent(file, file.packedSize());
                }
            }
        }
    }
}
