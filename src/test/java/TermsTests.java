/** The sentences of "Terms" that name a boundary case, in the order of its paragraphs, a test for each. */
public final class TermsTests extends Checks {
    private static final int LAST_DAY = 200;

    // Tenants and days

    /** "At most 5 tenants are numbered from 0". */
    private static void tenantsAtMost5() {
        QuotaAlmshouse x = house();
        is("the third", x.addTenant(1, 0), 2);
        is("the fourth", x.addTenant(1, 0), 3);
        is("the last", x.addTenant(1, 0), 4);
        refused("one behind the last", STATE, () -> x.addTenant(1, 0));
        is("the last one has files", x.ownerOf(x.make(4, 0, 0, 7)), 4);
        is("the last one's charge", x.charge('t', 4, 0), 7);
        is("the last one's row", x.request(4, 1), 1);
        refused("5 is none", INDEX, () -> x.charge('t', 5, 0));
    }

    /** "one that was merged into another one is gone": and is counted. */
    private static void tenantsAtMost5WithThoseGone() {
        QuotaAlmshouse x = withTenants(5);
        for (int tenant = 4; tenant > 0; tenant--) {
            is("nothing is charged", x.merge(tenant, tenant - 1), 0);
            refused("there were 5", STATE, () -> x.addTenant(1, 0));
        }
        is("the one left", x.credits(0), 0);
        for (int tenant = 1; tenant < 5; tenant++) {
            int gone = tenant;
            refused("gone", INDEX, () -> x.credits(gone));
        }
    }

    /** "The present day is 0 at first". */
    private static void daysFrom0() {
        QuotaAlmshouse x = withTenants(1);
        x.make(0, 0, 0, 5);
        x.setBound('t', 0, 0, 4, 99, 1);
        is("the grace begins with day 0", x.graceLeft('t', 0, 0), 1);
        for (int day = 1; day <= LAST_DAY; day++) {
            is("day", x.pass(), day);
        }
        refused("day 200", STATE, x::pass);
    }

    // Tree

    /** "At most 60 nodes are numbered from 0": the last by each call that makes one, and one behind it. */
    private static void nodesAtMost60() {
        for (int way = 0; way < 3; way++) {
            QuotaAlmshouse x = house();
            x.reserve(0, 2, 1, 5, 20);
            x.reserve(0, 2, 1, 5, 20);
            for (int i = 4; i < 59; i++) {
                is("number", x.addDirectory(i - 1), i);
            }
            int last = way == 0 ? x.addDirectory(3) : way == 1 ? x.make(0, 3, 0, 5) : x.makeReserved(0, 5);
            is("the last", last, 59);
            is("the last one's parent", x.parentOf(59), way == 2 ? 2 : 3);
            refused("one behind by addDirectory", STATE, () -> x.addDirectory(0));
            refused("one behind by make", STATE, () -> x.make(0, 0, 0, 1));
            refused("one behind by makeReserved", STATE, () -> x.makeReserved(1, 1));
            refused("60 is none", ELEMENT, () -> x.parentOf(60));
        }
    }

    /** Those that are gone keep their numbers, so that they are counted too. */
    private static void nodesAtMost60WithThoseGone() {
        QuotaAlmshouse x = withTenants(1);
        for (int i = 1; i < 60; i++) {
            x.delete(x.make(0, 0, 0, 1));
        }
        refused("all in the bin", STATE, () -> x.make(0, 0, 0, 1));
        pass(x, 5);
        is("all are gone", x.charge('t', 0, 0), 0);
        refused("all are gone", STATE, () -> x.make(0, 0, 0, 1));
        refused("all are gone, directory", STATE, () -> x.addDirectory(0));
    }

    /** "The node 0 is the top, a directory". */
    private static void theTop() {
        QuotaAlmshouse x = withTenants(1);
        is("a directory", x.addDirectory(0), 1);
        is("with files", x.parentOf(x.make(0, 0, 0, 3)), 0);
        is("with a charge", x.charge('d', 0, 0), 3);
        refused("without parent", ELEMENT, () -> x.parentOf(0));
        refused("no file", ELEMENT, () -> x.sizeOf(0));
        refused("not moved", ELEMENT, () -> x.move(0, 1));
    }

    /** "nodes above it are its parent, the parent of this, and so on": as deep as there are nodes. */
    private static void theDeepestTree() {
        QuotaAlmshouse x = withTenants(2);
        for (int i = 1; i < 59; i++) {
            x.addDirectory(i - 1);
        }
        x.reserve(0, 58, 1, 4, 20);
        is("at the bottom", x.make(0, 58, 1, 9), 59);
        for (int directory = 0; directory < 59; directory++) {
            is("charge at " + directory, x.charge('d', directory, 0), 13);
            is("anew at " + directory, x.chargeAnew('d', directory, 0), 13);
            is("below " + directory, x.below(directory), 1);
        }
        refused("far below it", ARGUMENT, () -> x.move(1, 58));
        is("a snapshot from the top", x.snapshot(1, 0), 0);
        is("has what is at the bottom", x.charge('t', 1, 0), 9);
        x.dropSnapshot(0);
        x.setBound('d', 0, 0, 13, 13, 0);
        refusedFor(x, "the top's bound at the bottom", 'd', () -> x.write(59, 10));
        is("to the top", x.move(58, 0), 2);
        is("less there", x.charge('d', 57, 0), 0);
        is("the same at the top", x.charge('d', 0, 0), 13);
        is("down again", x.move(58, 57), 2);
        is("all but the top", x.move(2, 0), 58);
        is("from the top given", x.give(0, 0, 1), 1);
        is("sound", x.isSound(), true);
    }

    /** "Files that are in the bin, and those that are gone, are in no directory". */
    private static void filesInNoDirectory() {
        QuotaAlmshouse x = house();
        x.make(0, 2, 1, 10);
        for (int days = 0; days <= 6; days++) {
            if (days == 0) {
                x.delete(4);
            } else {
                x.pass();
            }
            refused("no parent", ELEMENT, () -> x.parentOf(4));
            is("not below", x.below(2) + x.below(0), 0);
            is("not charged there", x.charge('d', 2, 0) + x.chargeAnew('d', 0, 0), 0);
            is("not given", x.give(0, 0, 1), 0);
            is("not moved", x.move(2, days % 2 == 0 ? 3 : 1), 1);
            x.snapshot(1, 0);
            is("not in a snapshot", x.charge('t', 1, 0), 0);
        }
    }

    /** "Directories are never gone". */
    private static void directoriesStay() {
        QuotaAlmshouse x = house();
        x.delete(x.make(0, 2, 1, 10));
        pass(x, LAST_DAY);
        is("an empty one", x.below(2), 0);
        is("its parent", x.parentOf(2), 1);
        is("a place", x.make(0, 2, 1, 10), 5);
    }

    // Contents

    /** "told by a number, given anew for each write": also if its size is the same. */
    private static void contentsAnewForEachWrite() {
        QuotaAlmshouse x = house();
        x.make(0, 2, 1, 10);
        x.snapshot(0, 0);
        is("held twice, charged once", x.charge('t', 0, 0), 10);
        for (int write = 1; write <= 3; write++) {
            x.write(4, 10);
            is("another content", x.charge('t', 0, 0), 20);
            is("anew", x.chargeAnew('t', 0, 0), 20);
        }
        is("the first one", x.dropSnapshot(0), 10);
        x.make(0, 3, 1, 10);
        is("two of the same size", x.charge('t', 0, 0), 20);
    }

    /** "charged its size once, however often it is held". */
    private static void contentsChargedOnce() {
        QuotaAlmshouse x = house();
        x.make(0, 2, 1, 10);
        for (int i = 0; i < 10; i++) {
            is("snapshot", x.snapshot(i / 5, i % 3), i);
            is("the owner", x.charge('t', 0, 0), 10);
            is("the other", x.charge('t', 1, 0), i < 5 ? 0 : 10);
        }
        for (int i = 5; i < 9; i++) {
            is("others have it", x.dropSnapshot(i), 0);
        }
        is("the last that has it", x.dropSnapshot(9), 10);
        for (int i = 0; i < 5; i++) {
            is("the file is held", x.dropSnapshot(i), 0);
        }
        is("the owner still", x.charge('t', 0, 0), 10);
    }

    /** "held by a file whose content it is, also in the bin, by its owner". */
    private static void contentsHeldInTheBin() {
        QuotaAlmshouse x = house();
        x.make(0, 2, 1, 10);
        x.make(0, 2, 1, 1);
        x.snapshot(0, 0);
        x.delete(4);
        x.delete(5);
        is("in the bin and a snapshot", x.charge('t', 0, 0), 11);
        is("still held by the bin", x.dropSnapshot(0), 0);
        pass(x, 4);
        is("on the last day", x.charge('t', 0, 0), 11);
        x.pass();
        is("gone", x.charge('t', 0, 0), 0);
        is("and found so", x.isSound(), true);
    }

    /** "by each snapshot that has it, by the tenant who made it". */
    private static void contentsHeldBySnapshots() {
        QuotaAlmshouse x = house();
        x.make(0, 2, 1, 10);
        x.snapshot(1, 0);
        x.snapshot(0, 0);
        x.delete(4);
        pass(x, 5);
        is("gone, but held", x.charge('t', 0, 0), 10);
        is("by both", x.charge('t', 1, 0), 10);
        is("of no kind", x.charge('k', 0, 1), 0);
        is("less for one", x.dropSnapshot(1), 10);
        is("not for the other", x.charge('t', 1, 0), 10);
        is("less for the other", x.dropSnapshot(0), 10);
        is("sound", x.isSound(), true);
    }

    // Bounds

    /** "'t' .. contents that the tenant holds, plus what is reserved". */
    private static void chargeOfATenant() {
        QuotaAlmshouse x = house();
        x.make(0, 2, 1, 1);
        x.make(1, 2, 1, 2);
        x.delete(x.make(0, 3, 0, 4));
        x.reserve(0, 3, 2, 8, 9);
        x.snapshot(0, 0);
        is("held and reserved", x.charge('t', 0, 0), 15);
        is("of another one", x.charge('t', 1, 0), 2);
        is("anew", x.chargeAnew('t', 0, 0), 15);
    }

    /** "'d' .. all files below it, at any depth, plus what is reserved in it or in directories below it". */
    private static void chargeOfADirectory() {
        QuotaAlmshouse x = house();
        x.make(0, 0, 1, 1);
        x.make(1, 1, 1, 2);
        x.make(0, 2, 1, 4);
        x.make(0, 3, 1, 8);
        x.reserve(0, 0, 2, 16, 9);
        x.reserve(1, 1, 2, 32, 9);
        x.reserve(0, 2, 2, 64, 9);
        x.snapshot(1, 0);
        is("top", x.charge('d', 0, 0), 127);
        is("1", x.charge('d', 1, 0), 102);
        is("2", x.charge('d', 2, 0), 68);
        is("3", x.charge('d', 3, 0), 8);
        x.delete(6);
        is("none of the bin", x.charge('d', 1, 0), 98);
        is("none of the bin, anew", x.chargeAnew('d', 1, 0), 98);
    }

    /** "'k' .. the tenant owns, those in the bin too, plus what is reserved for this kind". */
    private static void chargeOfAKind() {
        QuotaAlmshouse x = house();
        for (int kind = 0; kind < 4; kind++) {
            x.make(0, 2, kind, 1 << kind);
            x.reserve(0, 2, kind, 16 << kind, 9);
            x.make(1, 2, kind, 999);
        }
        x.snapshot(0, 0);
        x.delete(4);
        for (int kind = 0; kind < 4; kind++) {
            is("kind", x.charge('k', 0, kind), 17 << kind);
            is("kind anew", x.chargeAnew('k', 0, kind), 17 << kind);
        }
    }

    /** "'w' .. what was written on the present day .. given to files by writing". */
    private static void chargeOfWhatWasWritten() {
        QuotaAlmshouse x = house();
        x.make(0, 2, 1, 9);
        x.write(4, 5);
        x.write(4, 5);
        x.makeReserved(x.reserve(0, 2, 1, 50, 9), 2);
        is("the sum of all", x.charge('w', 0, 0), 21);
        x.pass();
        is("on another day", x.charge('w', 0, 0), 0);
        x.pack(4);
        x.pass();
        is("a packed one is not written", x.charge('w', 0, 0), 0);
        x.reserve(0, 2, 1, 50, 9);
        x.snapshot(0, 0);
        x.delete(4);
        x.restore(4);
        x.move(4, 3);
        x.give(0, 0, 1);
        is("nothing else is written", x.charge('w', 0, 0) + x.charge('w', 1, 0), 0);
        x.write(4, 7);
        is("by the owner", x.charge('w', 1, 0), 7);
        x.give(1, 0, 0);
        is("it stays with whoever wrote", x.charge('w', 1, 0), 7);
        is("and is not given", x.charge('w', 0, 0), 0);
        x.delete(4);
        is("it stays, though deleted", x.charge('w', 1, 0), 7);
    }

    /** "A bound is for one charge .. without a bound": a bound in the place of another one. */
    private static void boundsOneForACharge() {
        QuotaAlmshouse x = house();
        x.make(0, 2, 1, 10);
        x.setBound('t', 0, 0, 5, 10, 0);
        is("breached", x.breaches(), 1);
        refusedFor(x, "one", 't', () -> x.write(4, 11));
        x.setBound('t', 0, 0, 11, 11, 0);
        is("the other one", x.write(4, 11), 10);
        is("not breached", x.breaches(), 0);
    }

    // Fitting: see FittingTests for the numbers and days at which an act fits

    /** "if one is greater than the soft number, its grace begins with the present day, if it has not begun". */
    private static void gracesBegin() {
        QuotaAlmshouse x = house();
        x.make(0, 2, 1, 10);
        x.setBound('t', 0, 0, 10, 99, 5);
        refused("at the soft number", ELEMENT, () -> x.graceLeft('t', 0, 0));
        pass(x, 3);
        x.write(4, 11);
        is("one above", x.graceLeft('t', 0, 0), 5);
        x.pass();
        x.write(4, 12);
        is("it had begun", x.graceLeft('t', 0, 0), 4);
        x.write(4, 11);
        is("it has begun, though less", x.graceLeft('t', 0, 0), 4);
    }

    /** "if it is not, it has not begun any more". */
    private static void gracesEnd() {
        QuotaAlmshouse x = house();
        x.make(0, 2, 1, 11);
        x.setBound('t', 0, 0, 10, 99, 5);
        pass(x, 4);
        is("a day is left", x.graceLeft('t', 0, 0), 1);
        x.write(4, 10);
        refused("at the soft number", ELEMENT, () -> x.graceLeft('t', 0, 0));
        x.write(4, 11);
        is("all days again", x.graceLeft('t', 0, 0), 5);
        pass(x, 5);
        refusedFor(x, "over", 't', () -> x.write(4, 12));
        x.write(4, 10);
        is("not over any more", x.write(4, 12), 10);
        is("and begun anew", x.graceLeft('t', 0, 0), 5);
    }

    /** A grace of the most days, on its last day and on the day when it is over. */
    private static void gracesOf99Days() {
        QuotaAlmshouse x = house();
        x.make(0, 2, 1, 10);
        x.pass();
        x.setBound('d', 2, 0, 9, 99, 99);
        for (int left = 99; left > 0; left--) {
            is("left", x.graceLeft('d', 2, 0), left);
            is("not breached", x.breaches(), 0);
            x.pass();
        }
        is("none is left", x.graceLeft('d', 2, 0), 0);
        is("breached", x.breaches(), 1);
        refusedFor(x, "over", 'd', () -> x.write(4, 11));
        pass(x, 99);
        is("never less than 0", x.graceLeft('d', 2, 0), 0);
    }

    private static void gracesOnTheirLastDay() {
        QuotaAlmshouse x = house();
        x.make(0, 2, 1, 10);
        x.setBound('d', 2, 0, 9, 99, 99);
        pass(x, 98);
        is("on the last day", x.write(4, 11), 10);
        is("not breached", x.breaches(), 0);
        x.pass();
        refusedFor(x, "on the day when it is over", 'd', () -> x.write(4, 12));
        is("breached", x.breaches(), 1);
    }

    /** Each of the four kinds of charges has a grace of its own. */
    private static void gracesOfEachCharge() {
        for (char which : "tdkw".toCharArray()) {
            QuotaAlmshouse x = house();
            x.make(0, 2, 1, 10);
            x.setBound(which, 0, 1, 10, 99, 7);
            refused("not begun", ELEMENT, () -> x.graceLeft(which, 0, 1));
            x.make(0, 2, 1, 1);
            is("begun with the act", x.graceLeft(which, 0, 1), 7);
            refused("not of another one", ELEMENT, () -> x.graceLeft(which, 1, 0));
            x.pass();
            if (which == 'w') {
                refused("w is 0 with the day", ELEMENT, () -> x.graceLeft(which, 0, 1));
            } else {
                is("a day less", x.graceLeft(which, 0, 1), 6);
            }
        }
    }

    // Writing

    /** "the old one is not held by it any more". */
    private static void writingLetsTheOldOneGo() {
        QuotaAlmshouse x = house();
        x.make(0, 2, 1, 999);
        is("size before", x.write(4, 1), 999);
        is("t", x.charge('t', 0, 0), 1);
        is("d", x.charge('d', 0, 0), 1);
        is("k", x.charge('k', 0, 1), 1);
        is("sound", x.isSound(), true);
    }

    /** "the reservation ends by the write": of a file that is less than, as great as, and greater than the room. */
    private static void writingEndsTheReservation() {
        for (int size : new int[] {1, 9, 10, 11, 999}) {
            QuotaAlmshouse x = house();
            x.reserve(0, 2, 1, 10, 3);
            is("file", x.makeReserved(0, size), 4);
            refused("ended", ELEMENT, () -> x.giveUp(0));
            refused("used once", ELEMENT, () -> x.makeReserved(0, 1));
            is("t", x.charge('t', 0, 0), size);
            is("d", x.charge('d', 2, 0), size);
            is("k", x.charge('k', 0, 1), size);
            is("w, as a whole", x.charge('w', 0, 0), size);
            pass(x, 3);
            is("it does not end again", x.charge('t', 0, 0), size);
            is("sound", x.isSound(), true);
        }
    }

    /** "half of the size of its own one, rounded up". */
    private static void packedSizes() {
        int[][] sizes = {{1, 1}, {2, 1}, {3, 2}, {4, 2}, {5, 3}, {998, 499}, {999, 500}};
        for (int[] size : sizes) {
            QuotaAlmshouse x = house();
            x.make(0, 2, 1, size[0]);
            is("would be", x.pack(4), size[1]);
            is("is not yet", x.sizeOf(4), size[0]);
            x.pass();
            is("is", x.sizeOf(4), size[1]);
            is("t", x.charge('t', 0, 0), size[1]);
            is("d", x.charge('d', 0, 0), size[1]);
            is("k", x.charge('k', 0, 1), size[1]);
        }
    }

    private static void packedAgainAndAgain() {
        QuotaAlmshouse x = house();
        x.make(0, 2, 1, 999);
        int size = 999;
        for (int day = 0; day < 12; day++) {
            size = size - size / 2;
            is("would be", x.pack(4), size);
            refused("it is to be packed", STATE, () -> x.pack(4));
            x.pass();
            is("is", x.sizeOf(4), size);
        }
        is("not without being told", x.pack(x.make(0, 2, 1, 8)), 4);
        x.pass();
        x.pass();
        is("once", x.sizeOf(5), 4);
    }

    /** "it is not to be packed any more as soon as it is written". */
    private static void writtenFilesAreNotPacked() {
        QuotaAlmshouse x = house();
        x.make(0, 2, 1, 10);
        x.pack(4);
        x.write(4, 10);
        x.pass();
        is("not packed", x.sizeOf(4), 10);
        x.pack(4);
        x.write(4, 9);
        is("it may be packed again", x.pack(4), 5);
        x.pass();
        is("packed", x.sizeOf(4), 5);
    }

    /** ".. or deleted". */
    private static void deletedFilesAreNotPacked() {
        QuotaAlmshouse x = house();
        x.make(0, 2, 1, 10);
        x.pack(4);
        x.delete(4);
        x.pass();
        is("not packed in the bin", x.charge('t', 0, 0), 10);
        x.restore(4);
        x.pass();
        is("not packed behind", x.sizeOf(4), 10);
        x.pack(4);
        x.delete(4);
        x.restore(4);
        is("it may be packed again", x.pack(4), 5);
        x.pass();
        is("packed", x.sizeOf(4), 5);
    }

    /** "if a snapshot holds its content then, it is not packed, and is not to be packed any more". */
    private static void filesInSnapshotsAreNotPacked() {
        for (int maker = 0; maker < 2; maker++) {
            for (int before = 0; before < 2; before++) {
                QuotaAlmshouse x = house();
                x.make(0, 2, 1, 10);
                if (before == 1) {
                    x.snapshot(maker, 2);
                }
                is("would be", x.pack(4), 5);
                if (before == 0) {
                    x.snapshot(maker, 0);
                }
                x.pass();
                is("not packed", x.sizeOf(4), 10);
                x.dropSnapshot(0);
                x.pass();
                is("not to be packed any more", x.sizeOf(4), 10);
                is("it may be packed again", x.pack(4), 5);
                x.pass();
                is("packed", x.sizeOf(4), 5);
            }
        }
    }

    /** ".. holds its content then": not one that was dropped, has nothing, or has an older content. */
    private static void filesInNoSnapshotThenArePacked() {
        QuotaAlmshouse x = house();
        x.make(0, 2, 1, 10);
        x.pack(4);
        x.snapshot(1, 2);
        x.snapshot(1, 3);
        x.dropSnapshot(0);
        x.pass();
        is("dropped, or of another directory", x.sizeOf(4), 5);
        x.snapshot(0, 2);
        x.write(4, 20);
        x.pack(4);
        x.pass();
        is("with an older content", x.sizeOf(4), 10);
        is("which is held", x.charge('t', 0, 0), 15);
        is("sound", x.isSound(), true);
    }

    /** What is to be packed stays so with another place and owner. */
    private static void movedAndGivenFilesArePacked() {
        QuotaAlmshouse x = house();
        x.make(0, 2, 1, 10);
        x.pack(4);
        x.move(4, 3);
        x.give(0, 0, 1);
        x.merge(1, 0);
        refused("it is to be packed", STATE, () -> x.pack(4));
        x.pass();
        is("packed", x.sizeOf(4), 5);
        is("charges", x.charge('t', 0, 0) + x.charge('k', 0, 1) + x.charge('d', 3, 0), 15);
    }

    // Reservations

    /** "At most 20 reservations are numbered from 0": those that ended are counted. */
    private static void reservationsAtMost20() {
        QuotaAlmshouse x = house();
        for (int i = 0; i < 20; i++) {
            is("number", x.reserve(i % 2, i % 4, i % 4, i + 1, 1 + i), i);
        }
        refused("one behind the last", STATE, () -> x.reserve(0, 0, 0, 1, 1));
        is("the last one", x.giveUp(19), 20);
        refused("one was given up", STATE, () -> x.reserve(0, 0, 0, 1, 1));
        x.makeReserved(18, 19);
        refused("one was used", STATE, () -> x.reserve(0, 0, 0, 1, 1));
        pass(x, 20);
        is("all have ended", x.charge('d', 0, 0), 19);
        refused("all have ended", STATE, () -> x.reserve(0, 0, 0, 1, 1));
    }

    /** "ends .. at the beginning of its last day": for each number of days. */
    private static void reservationsEndWithTheirLastDay() {
        for (int days = 1; days <= 20; days++) {
            QuotaAlmshouse x = house();
            pass(x, 3);
            x.reserve(0, 2, 1, 10, days);
            x.reserve(0, 2, 1, 5, days);
            pass(x, days - 1);
            is("on the day before", x.charge('t', 0, 0), 15);
            is("it can be used", x.makeReserved(1, 5), 4);
            x.pass();
            is("t", x.charge('t', 0, 0), 5);
            is("d", x.charge('d', 1, 0), 5);
            is("k", x.charge('k', 0, 1), 5);
            refused("ended", ELEMENT, () -> x.giveUp(0));
            refused("not to be used", ELEMENT, () -> x.makeReserved(0, 1));
        }
    }

    /** A last day that is, and one that is not, before there are no more days. */
    private static void reservationsAtTheLastDays() {
        QuotaAlmshouse x = house();
        pass(x, 180);
        x.reserve(0, 2, 1, 10, 20);
        x.pass();
        x.reserve(0, 2, 1, 5, 20);
        pass(x, 18);
        is("day 199", x.charge('t', 0, 0), 15);
        is("day 200", x.pass(), 200);
        is("ended with the day 200", x.charge('t', 0, 0), 5);
        is("the other one stays", x.makeReserved(1, 6), 4);
        is("reserved on the last day", x.giveUp(x.reserve(0, 0, 0, 1, 1)), 1);
    }

    /** The grace of what was reserved ends with the reservation. */
    private static void reservationsEndByRisingNumbers() {
        QuotaAlmshouse x = house();
        for (int i = 0; i < 5; i++) {
            x.reserve(0, 2, 1, 1 << i, 2);
        }
        x.reserve(0, 2, 1, 32, 3);
        x.setBound('k', 0, 1, 32, 99, 3);
        pass(x, 1);
        is("all", x.charge('k', 0, 1), 63);
        is("grace", x.graceLeft('k', 0, 1), 2);
        x.pass();
        is("all of this day", x.charge('k', 0, 1), 32);
        refused("no grace", ELEMENT, () -> x.graceLeft('k', 0, 1));
    }

    // Moving and giving

    /** "with all that is below it": files, directories and what is reserved. */
    private static void movedWithAllBelow() {
        QuotaAlmshouse x = house();
        x.make(0, 2, 1, 1);
        x.make(1, 1, 2, 2);
        x.reserve(1, 2, 1, 4, 9);
        x.reserve(0, 1, 1, 8, 9);
        x.make(0, 3, 1, 16);
        is("nodes", x.move(1, 3), 4);
        is("to there", x.charge('d', 3, 0), 31);
        is("itself as it was", x.charge('d', 1, 0), 15);
        is("top as it was", x.charge('d', 0, 0), 31);
        is("the file in it", x.parentOf(5), 1);
        is("the directory in it", x.parentOf(2), 1);
        is("the directory", x.parentOf(1), 3);
        x.pass();
        is("what is reserved ends there", x.giveUp(0), 4);
        is("less", x.charge('d', 3, 0), 27);
        is("sound", x.isSound(), true);
    }

    /** "neither itself nor below it": but beside it, above its parent, and where it was before. */
    private static void movedWhereItMayBe() {
        QuotaAlmshouse x = house();
        x.make(0, 2, 1, 1);
        refused("itself", ARGUMENT, () -> x.move(2, 2));
        refused("below it", ARGUMENT, () -> x.move(1, 2));
        is("above its parent", x.move(2, 0), 2);
        is("beside it", x.move(1, 3), 1);
        is("what was below it", x.move(1, 2), 1);
        refused("now the other way", ARGUMENT, () -> x.move(2, 1));
        is("where it was before", x.move(1, 0), 1);
        is("now again", x.move(2, 1), 2);
        is("charges", x.charge('d', 1, 0) + x.charge('d', 2, 0) + x.charge('d', 3, 0), 2);
    }

    /** "charges of directories that are above it in both places do not change": nor break their bounds. */
    private static void movedBelowTheSame() {
        QuotaAlmshouse x = house();
        x.addDirectory(1);
        x.make(0, 2, 1, 10);
        x.setBound('d', 0, 0, 0, 0, 0);
        x.setBound('d', 1, 0, 0, 5, 0);
        x.setBound('d', 2, 0, 0, 0, 0);
        x.setBound('d', 4, 0, 0, 10, 1);
        x.lose('d', 1, 0, 3);
        x.lose('d', 0, 0, -3);
        is("a file", x.move(5, 4), 1);
        is("1", x.charge('d', 1, 0), 13);
        is("top", x.charge('d', 0, 0), 7);
        x.move(5, 1);
        is("into one that is above it", x.charge('d', 1, 0), 13);
        is("less in the other", x.charge('d', 4, 0), 0);
        is("out of it", x.move(5, 0), 1);
        is("less above", x.charge('d', 1, 0), 3);
        refusedFor(x, "into it", 'd', () -> x.move(5, 1));
    }

    /** "All files of a tenant below a directory, at any depth, are given to another tenant". */
    private static void givenAtAnyDepth() {
        QuotaAlmshouse x = house();
        x.make(0, 2, 0, 1);
        x.make(0, 1, 1, 2);
        x.make(0, 0, 2, 4);
        x.make(0, 3, 3, 8);
        x.make(1, 2, 0, 16);
        x.reserve(0, 2, 0, 32, 9);
        is("below 2", x.give(0, 2, 1), 1);
        is("t", x.charge('t', 1, 0), 17);
        is("below 1", x.give(0, 1, 1), 1);
        is("the rest from the top", x.give(0, 0, 1), 2);
        is("none is left", x.give(0, 0, 1), 0);
        is("what is reserved is not given", x.charge('t', 0, 0), 32);
        is("all", x.give(1, 0, 0), 5);
        is("t then", x.charge('t', 0, 0), 63);
        is("nothing is held", x.charge('t', 1, 0), 0);
    }

    /** ".. all or none". */
    private static void givenAllOrNone() {
        QuotaAlmshouse x = house();
        for (int kind = 0; kind < 4; kind++) {
            x.make(0, kind == 3 ? 2 : 1, kind, 10);
        }
        for (int kind = 0; kind < 4; kind++) {
            QuotaAlmshouse y = house();
            for (int i = 0; i < 4; i++) {
                y.make(0, 2, i, 10);
            }
            y.setBound('k', 1, kind, 9, 9, 0);
            refusedFor(y, "kind " + kind, 'k', () -> y.give(0, 0, 1));
            is("none", y.charge('t', 1, 0), 0);
            for (int file = 4; file < 8; file++) {
                is("owner", y.ownerOf(file), 0);
            }
        }
        x.setBound('t', 1, 0, 39, 39, 0);
        refusedFor(x, "all together", 't', () -> x.give(0, 0, 1));
        is("some fit", x.give(0, 2, 1), 1);
        refusedFor(x, "the rest", 't', () -> x.give(0, 0, 1));
    }

    /** What the giver's snapshot has it goes on holding; what the other one's has is not charged to this anew. */
    private static void givenWhatOneOfBothHolds() {
        for (int maker = 0; maker < 2; maker++) {
            QuotaAlmshouse x = house();
            x.make(0, 2, 1, 10);
            x.snapshot(maker, 0);
            x.make(0, 2, 1, 5);
            is("given", x.give(0, 0, 1), 2);
            is("the giver", x.charge('t', 0, 0), maker == 0 ? 10 : 0);
            is("the other", x.charge('t', 1, 0), 15);
            is("sound", x.isSound(), true);
            is("back", x.give(1, 0, 0), 2);
            is("the first one", x.charge('t', 0, 0), 15);
            is("the second one", x.charge('t', 1, 0), maker == 1 ? 10 : 0);
            is("sound again", x.isSound(), true);
        }
    }

    /** One that was refused leaves nothing behind that would hinder another one. */
    private static void givenBehindARefusal() {
        QuotaAlmshouse x = house();
        for (int kind = 0; kind < 4; kind++) {
            x.make(0, 2, kind, 10);
            x.make(0, 3, kind, 6);
            x.setBound('k', 1, kind, 10, 10, 0);
        }
        refusedFor(x, "all", 'k', () -> x.give(0, 0, 1));
        refusedFor(x, "all again", 'k', () -> x.give(0, 0, 1));
        is("some", x.give(0, 2, 1), 4);
        refusedFor(x, "the others", 'k', () -> x.give(0, 3, 1));
    }

    /** What both hold is charged for each once, before and after. */
    private static void givenWhatSnapshotsHold() {
        QuotaAlmshouse x = house();
        x.make(0, 2, 1, 10);
        x.make(0, 2, 1, 5);
        x.snapshot(0, 2);
        x.snapshot(1, 2);
        x.write(4, 20);
        x.setBound('t', 1, 0, 35, 35, 0);
        is("given", x.give(0, 0, 1), 2);
        is("the giver's snapshot", x.charge('t', 0, 0), 15);
        is("the other's", x.charge('t', 1, 0), 35);
        is("sound", x.isSound(), true);
        is("dropped", x.dropSnapshot(1), 10);
        is("the file is held", x.charge('t', 1, 0), 25);
    }

    // Bin

    /** "until it is restored into the directory in which it was": wherever that is. */
    private static void restoredIntoItsDirectory() {
        QuotaAlmshouse x = house();
        x.make(0, 2, 1, 10);
        x.delete(4);
        x.move(2, 3);
        x.move(3, 1);
        x.setBound('d', 1, 0, 9, 9, 0);
        refusedFor(x, "above it now", 'd', () -> x.restore(4));
        x.move(2, 0);
        is("directory", x.restore(4), 2);
        is("parent", x.parentOf(4), 2);
        is("d", x.charge('d', 2, 0), 10);
        is("no more above", x.charge('d', 1, 0), 0);
    }

    /** "gone at the beginning of the day on which it was deleted, plus 5": deleted on one of several days. */
    private static void goneWithTheFifthDay() {
        for (int day = 0; day < 7; day++) {
            QuotaAlmshouse x = house();
            x.make(0, 2, 1, 10);
            x.make(0, 2, 1, 5);
            pass(x, day);
            is("bin", x.delete(4), 1);
            is("bin", x.delete(5), 2);
            pass(x, 4);
            is("on the fourth day behind", x.restore(5), 2);
            is("still held", x.charge('t', 0, 0), 15);
            is("still of its kind", x.charge('k', 0, 1), 15);
            x.pass();
            refused("gone", ELEMENT, () -> x.restore(4));
            is("t", x.charge('t', 0, 0), 5);
            is("k", x.charge('k', 0, 1), 5);
            is("restored ones stay", x.sizeOf(5), 5);
        }
    }

    /** The days of one that was restored and deleted again begin anew. */
    private static void goneFromTheLastTimeItWasDeleted() {
        QuotaAlmshouse x = house();
        x.make(0, 2, 1, 10);
        x.delete(4);
        pass(x, 4);
        x.restore(4);
        x.delete(4);
        pass(x, 4);
        is("not yet", x.restore(4), 2);
        pass(x, 9);
        is("not in the bin", x.sizeOf(4), 10);
        x.delete(4);
        pass(x, 5);
        refused("gone", ELEMENT, () -> x.restore(4));
    }

    private static void goneWithTheLastDay() {
        QuotaAlmshouse x = house();
        x.make(0, 2, 1, 10);
        x.make(0, 2, 1, 5);
        pass(x, 195);
        x.delete(4);
        x.pass();
        x.delete(5);
        pass(x, 4);
        refused("gone with the day 200", ELEMENT, () -> x.restore(4));
        is("in the bin for good", x.restore(5), 2);
    }

    // Snapshots

    /** "At most 10 snapshots are numbered from 0": those that are dropped are counted. */
    private static void snapshotsAtMost10() {
        QuotaAlmshouse x = house();
        for (int i = 0; i < 10; i++) {
            x.make(0, 2, 1, 1);
            is("number", x.snapshot(i % 2, i % 3), i);
        }
        refused("one behind the last", STATE, () -> x.snapshot(0, 0));
        is("the last one", x.dropSnapshot(9), 2);
        refused("one was dropped", STATE, () -> x.snapshot(0, 0));
        for (int i = 0; i < 9; i++) {
            x.dropSnapshot(i);
        }
        is("all were dropped", x.charge('t', 1, 0), 0);
        refused("all were dropped", STATE, () -> x.snapshot(0, 0));
        refused("10 is none", ELEMENT, () -> x.dropSnapshot(10));
    }

    /** Each of the ten has contents of its own. */
    private static void snapshotsApart() {
        QuotaAlmshouse x = house();
        x.make(0, 2, 1, 1);
        for (int i = 0; i < 10; i++) {
            x.snapshot(1, 2);
            x.write(4, i < 9 ? 2 << i : 1);
        }
        is("all", x.charge('t', 1, 0), 1023);
        for (int i = 9; i >= 0; i--) {
            is("less by its own", x.dropSnapshot(i), 1 << i);
            int number = i;
            refused("dropped", ELEMENT, () -> x.dropSnapshot(number));
        }
    }

    /** "the contents of all files below it, at any depth, as they are then, whoever owns them". */
    private static void snapshotsOfAllBelow() {
        QuotaAlmshouse x = house();
        x.addTenant(1, 0);
        x.make(0, 2, 1, 1);
        x.make(1, 1, 1, 2);
        x.make(2, 0, 1, 4);
        x.make(0, 3, 1, 8);
        x.delete(x.make(1, 2, 1, 16));
        x.snapshot(2, 1);
        is("below 1", x.charge('t', 2, 0), 7);
        x.snapshot(2, 0);
        is("below the top", x.charge('t', 2, 0), 15);
        x.make(0, 2, 1, 32);
        x.restore(8);
        is("not what came then", x.charge('t', 2, 0), 15);
        x.write(4, 64);
        x.delete(5);
        x.move(7, 2);
        x.give(0, 0, 1);
        pass(x, 5);
        is("as they were then", x.charge('t', 2, 0), 15);
        is("dropped, but held by the other one", x.dropSnapshot(0), 0);
        is("until it is dropped", x.dropSnapshot(1), 11);
    }

    // Days

    /** "Graces begin and end behind all this": of reservations, the bin, packing and writing together. */
    private static void gracesBehindTheDay() {
        QuotaAlmshouse x = house();
        x.make(0, 2, 1, 10);
        x.delete(x.make(0, 2, 1, 7));
        pass(x, 4);
        x.reserve(0, 2, 1, 3, 1);
        x.write(4, 20);
        x.pack(4);
        x.setBound('t', 0, 0, 10, 99, 1);
        x.setBound('k', 0, 1, 9, 99, 2);
        x.setBound('w', 0, 0, 0, 99, 1);
        is("before", x.charge('t', 0, 0), 30);
        x.pass();
        is("behind", x.charge('t', 0, 0), 10);
        refused("t ends", ELEMENT, () -> x.graceLeft('t', 0, 0));
        refused("w ends", ELEMENT, () -> x.graceLeft('w', 0, 0));
        is("k goes on", x.graceLeft('k', 0, 1), 1);
        is("none is breached", x.breaches(), 0);
        x.pass();
        is("k is over", x.breaches(), 1);
    }

    /** A grace begins with the new day, not with the one that has passed. */
    private static void gracesBeginWithTheNewDay() {
        QuotaAlmshouse x = house();
        x.setBound('d', 3, 0, 5, 9, 3);
        x.lose('d', 3, 0, 6);
        x.pass();
        is("the new day", x.graceLeft('d', 3, 0), 3);
        x.lose('d', 3, 0, -1);
        is("no grace changes by this", x.graceLeft('d', 3, 0), 3);
        x.pass();
        refused("it ends with the day", ELEMENT, () -> x.graceLeft('d', 3, 0));
    }

    /** "what was written is 0 for all". */
    private static void writtenIs0ForAll() {
        QuotaAlmshouse x = withTenants(5);
        for (int tenant = 0; tenant < 5; tenant++) {
            x.make(tenant, 0, 0, 9);
        }
        x.merge(4, 3);
        is("of both", x.charge('w', 3, 0), 18);
        x.pass();
        for (int tenant = 0; tenant < 4; tenant++) {
            is("w", x.charge('w', tenant, 0), 0);
            is("w anew", x.chargeAnew('w', tenant, 0), 0);
        }
    }

    public static void main(String[] args) throws Exception {
        runAll(TermsTests.class);
    }
}
