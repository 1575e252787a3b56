/** The sentences of the promises that name a boundary case and are not told again in "Terms", by their numbers. */
public final class EdgeTests extends Checks {
    private static final char[] CHARGES = {'t', 'd', 'k', 'w'};

    /** A house without tenants or files. */
    private static void promise1AHouseWithoutTenantsOrFiles() {
        QuotaAlmshouse x = new QuotaAlmshouse();
        is("day", x.pass(), 1);
        is("round", x.round(), 0);
        is("audit", x.audit(), 0);
        is("breaches", x.breaches(), 0);
        is("sound", x.isSound(), true);
        is("reason", x.reason(), '-');
        is("below", x.below(0), 0);
        is("charge", x.charge('d', 0, 0), 0);
        is("anew", x.chargeAnew('d', 0, 0), 0);
        is("bound", x.setBound('d', 0, 0, 0, 0, 0), 0);
        refused("grace", ELEMENT, () -> x.graceLeft('d', 0, 0));
        refused("fairness", ELEMENT, x::fairness);
        refused("make", INDEX, () -> x.make(0, 0, 0, 1));
        refused("reserve", INDEX, () -> x.reserve(0, 0, 0, 1, 1));
        refused("snapshot", INDEX, () -> x.snapshot(0, 0));
        refused("give", INDEX, () -> x.give(0, 0, 1));
        refused("merge", INDEX, () -> x.merge(0, 0));
        refused("request", INDEX, () -> x.request(0, 1));
        refused("giveUp", ELEMENT, () -> x.giveUp(0));
        refused("makeReserved", ELEMENT, () -> x.makeReserved(0, 1));
        refused("dropSnapshot", ELEMENT, () -> x.dropSnapshot(0));
        refused("restore", ELEMENT, () -> x.restore(0));
        is("lost without tenants", x.lose('d', 0, 0, -1), -1);
        is("wrong", x.audit(), 1);
        is("the first directory", x.addDirectory(0), 1);
    }

    /** Two objects share nothing. */
    private static void promise1ObjectsAreApart() {
        QuotaAlmshouse x = house();
        x.make(0, 2, 1, 10);
        x.setBound('t', 0, 0, 1, 2, 3);
        refusedFor(x, "refused", 't', () -> x.write(4, 11));
        QuotaAlmshouse y = house();
        is("reason", y.reason(), '-');
        is("number", y.make(0, 2, 1, 999), 4);
        is("charge", x.charge('t', 0, 0), 10);
    }

    /** "the weight, 1 to 9", "the burst, 0 to 99". */
    private static void promise2TheLeastAndGreatestNumbers() {
        QuotaAlmshouse x = new QuotaAlmshouse();
        is("least", x.addTenant(1, 0), 0);
        is("greatest", x.addTenant(9, 99), 1);
        is("least and greatest", x.addTenant(1, 99), 2);
        is("greatest and least", x.addTenant(9, 0), 3);
        for (int tenant = 0; tenant < 4; tenant++) {
            x.request(tenant, 99);
            x.request(tenant, 99);
        }
        is("served by bursts", x.round(), 2);
        is("10", x.credits(0), 10);
        is("90 less 99", x.credits(1), -9);
        is("10 less 99", x.credits(2), -89);
        is("90", x.credits(3), 90);
    }

    private static void promise3AnEmptyDirectory() {
        QuotaAlmshouse x = withTenants(1);
        x.make(0, 0, 1, 5);
        is("number", x.addDirectory(0), 2);
        is("empty", x.below(2), 0);
        is("not charged", x.charge('d', 2, 0), 0);
        refused("no bound", ELEMENT, () -> x.graceLeft('d', 2, 0));
        is("parent", x.parentOf(2), 0);
    }

    /** "0 to 9999", "not less, to 9999", "0 to 99". */
    private static void promise4TheLeastAndGreatestNumbers() {
        for (char which : CHARGES) {
            QuotaAlmshouse x = house();
            x.make(0, 2, 1, 10);
            is("least", x.setBound(which, 0, 1, 0, 0, 0), 10);
            is("over at once", x.graceLeft(which, 0, 1), 0);
            is("greatest", x.setBound(which, 0, 1, 9999, 9999, 99), 10);
            refused("not begun", ELEMENT, () -> x.graceLeft(which, 0, 1));
            is("least and greatest", x.setBound(which, 0, 1, 0, 9999, 99), 10);
            is("days", x.graceLeft(which, 0, 1), 99);
            is("as great as the charge", x.setBound(which, 0, 1, 10, 10, 5), 10);
            refused("not greater", ELEMENT, () -> x.graceLeft(which, 0, 1));
            is("one less", x.setBound(which, 0, 1, 9, 9, 5), 10);
            is("greater", x.graceLeft(which, 0, 1), 5);
            is("one soft, one hard", x.setBound(which, 0, 1, 1, 1, 1), 10);
        }
    }

    /** "of no meaning but for 'k'". */
    private static void promise4KindsOfNoMeaning() {
        for (int kind : FAR) {
            QuotaAlmshouse x = house();
            x.make(0, 2, 1, 10);
            for (char which : new char[] {'t', 'd', 'w'}) {
                is("bound", x.setBound(which, 0, kind, 9, 99, 5), 10);
                is("charge", x.charge(which, 0, kind), 10);
                is("anew", x.chargeAnew(which, 0, kind), 10);
                is("grace", x.graceLeft(which, 0, kind), 5);
                is("the same", x.graceLeft(which, 0, 0), 5);
            }
            is("lose t", x.lose('t', 0, kind, 1), 11);
            is("lose d", x.lose('d', 0, kind, -1), 9);
        }
    }

    /** "its grace has not begun, unless the charge is greater than the soft number now". */
    private static void promise4InPlaceOfAnotherOne() {
        QuotaAlmshouse x = house();
        x.make(0, 2, 1, 10);
        x.setBound('d', 2, 0, 5, 99, 2);
        pass(x, 2);
        is("over", x.breaches(), 1);
        x.setBound('d', 2, 0, 5, 99, 2);
        is("begun with this day", x.graceLeft('d', 2, 0), 2);
        is("not over", x.breaches(), 0);
        is("it fits", x.write(4, 11), 10);
        x.setBound('d', 2, 0, 11, 11, 0);
        is("not greater", x.write(4, 11), 11);
        refused("not begun", ELEMENT, () -> x.graceLeft('d', 2, 0));
        x.setBound('d', 2, 0, 5, 8, 9);
        is("above the hard one at once", x.breaches(), 1);
        is("its grace", x.graceLeft('d', 2, 0), 9);
    }

    /** "Returns the charge": as it is kept, also less than 0. */
    private static void promise4AnswersWhatIsKept() {
        QuotaAlmshouse x = house();
        x.make(0, 2, 1, 10);
        x.lose('k', 0, 1, -99);
        is("less than 0", x.setBound('k', 0, 1, 0, 0, 0), -89);
        refused("not greater", ELEMENT, () -> x.graceLeft('k', 0, 1));
        is("to 0", x.write(4, 99), 10);
        refusedFor(x, "one above", 'k', () -> x.write(4, 100));
    }

    private static void promise6FindsAndChangesNothing() {
        QuotaAlmshouse x = house();
        x.make(0, 2, 1, 10);
        for (char which : new char[] {'t', 'd', 'k'}) {
            x.lose(which, 0, 1, 7);
            is("anew", x.chargeAnew(which, 0, 1), 10);
            is("kept", x.charge(which, 0, 1), 17);
        }
        is("w", x.chargeAnew('w', 0, 1), 10);
        is("all are wrong still", x.audit(), 3);
    }

    /** "Returns the days, 0 if it is over". */
    private static void promise8TheLastDays() {
        for (int grace = 0; grace < 4; grace++) {
            QuotaAlmshouse x = house();
            pass(x, 2);
            x.setBound('d', 0, 0, 0, 99, grace);
            x.make(0, 2, 1, 10);
            for (int day = 0; day < 8; day++) {
                is("left", x.graceLeft('d', 0, 0), Math.max(0, grace - day));
                is("breached when over", x.breaches(), day >= grace ? 1 : 0);
                x.pass();
            }
        }
    }

    /** "the size, 1 to 999", and each kind. */
    private static void promise9TheLeastAndGreatestNumbers() {
        QuotaAlmshouse x = house();
        for (int kind = 0; kind < 4; kind++) {
            is("least", x.make(1, 0, kind, 1), 4 + 2 * kind);
            is("greatest", x.make(1, 3, kind, 999), 5 + 2 * kind);
            is("kind", x.charge('k', 1, kind), 1000);
        }
        is("t", x.charge('t', 1, 0), 4000);
        is("w", x.charge('w', 1, 0), 4000);
    }

    private static void promise10TheLeastAndGreatestSizes() {
        QuotaAlmshouse x = house();
        x.make(0, 2, 1, 5);
        is("least", x.write(4, 1), 5);
        is("greatest", x.write(4, 999), 1);
        is("the same", x.write(4, 999), 999);
        is("w", x.charge('w', 0, 0), 2004);
        is("t", x.charge('t', 0, 0), 999);
    }

    private static void promise11TheLeastAndGreatestSizes() {
        QuotaAlmshouse x = house();
        x.reserve(0, 2, 1, 1, 1);
        x.reserve(0, 2, 1, 999, 20);
        is("greater than the least room", x.makeReserved(0, 999), 4);
        is("less than the greatest", x.makeReserved(1, 1), 5);
        is("t", x.charge('t', 0, 0), 1000);
        is("w", x.charge('w', 0, 0), 1000);
        is("sound", x.isSound(), true);
    }

    /** A reservation is used by whoever has it then, wherever its directory is then. */
    private static void promise11OfATenantThatIsGone() {
        QuotaAlmshouse x = house();
        x.reserve(0, 2, 1, 10, 9);
        x.move(2, 3);
        x.merge(0, 1);
        x.setBound('t', 1, 0, 10, 10, 0);
        x.setBound('d', 3, 0, 10, 10, 0);
        refusedFor(x, "more than the room", 't', () -> x.makeReserved(0, 11));
        is("file", x.makeReserved(0, 10), 4);
        is("owner", x.ownerOf(4), 1);
        is("parent", x.parentOf(4), 2);
        is("w", x.charge('w', 1, 0), 10);
    }

    private static void promise12TheLeastAndGreatestNumbers() {
        QuotaAlmshouse x = house();
        for (int kind = 0; kind < 4; kind++) {
            is("least", x.reserve(0, 0, kind, 1, 1), 2 * kind);
            is("greatest", x.reserve(0, 2, kind, 999, 20), 2 * kind + 1);
            is("kind", x.charge('k', 0, kind), 1000);
        }
        x.pass();
        is("the least days", x.charge('t', 0, 0), 3996);
        pass(x, 18);
        is("not yet", x.charge('t', 0, 0), 3996);
        x.pass();
        is("the greatest days", x.charge('t', 0, 0), 0);
    }

    private static void promise13LeastAndGreatest() {
        QuotaAlmshouse x = house();
        for (int i = 0; i < 20; i++) {
            x.reserve(0, 2, 1, i == 19 ? 999 : 1, 20);
        }
        is("the last one", x.giveUp(19), 999);
        is("the first one", x.giveUp(0), 1);
        is("the others", x.charge('d', 2, 0), 18);
        refused("20 is none", ELEMENT, () -> x.giveUp(20));
    }

    /** "Returns how many nodes are moved, itself included". */
    private static void promise15HowManyNodes() {
        QuotaAlmshouse x = house();
        is("one without others", x.move(2, 3), 1);
        for (int i = 4; i < 60; i++) {
            is("node", i % 2 == 0 ? x.addDirectory(2) : x.make(0, i - 1, 0, 1), i);
        }
        is("all others", x.move(3, 1), 58);
        x.delete(5);
        x.delete(7);
        is("none of the bin", x.move(3, 0), 56);
        pass(x, 5);
        is("none that are gone", x.move(3, 1), 56);
    }

    /** "Returns how many files are given": none, too. */
    private static void promise16HowManyFiles() {
        QuotaAlmshouse x = house();
        x.setBound('t', 1, 0, 0, 0, 0);
        is("none", x.give(0, 0, 1), 0);
        x.setBound('t', 1, 0, 999, 999, 0);
        for (int i = 0; i < 56; i++) {
            x.make(0, i % 4, i % 3, 1);
        }
        is("all", x.give(0, 0, 1), 56);
        is("none again", x.give(0, 0, 1), 0);
        is("back", x.give(1, 1, 0), 28);
    }

    /** "Returns how many files are in the bin". */
    private static void promise17HowManyInTheBin() {
        QuotaAlmshouse x = house();
        for (int i = 0; i < 56; i++) {
            x.make(i % 2, i % 4, 0, 1);
        }
        for (int i = 0; i < 50; i++) {
            is("one more", x.delete(4 + i), i + 1);
        }
        x.restore(10);
        is("one less, one more", x.delete(54), 50);
        pass(x, 5);
        is("the others are gone", x.delete(10), 1);
        is("another owner's too", x.delete(55), 2);
    }

    /** "Returns by how much the charge of its tenant is less then". */
    private static void promise20WhatIsLess() {
        QuotaAlmshouse x = house();
        x.make(0, 2, 1, 10);
        x.make(1, 2, 1, 5);
        x.snapshot(0, 3);
        x.snapshot(0, 2);
        x.snapshot(0, 1);
        x.lose('t', 0, 0, 50);
        is("nothing in it", x.dropSnapshot(0), 0);
        is("another one has it", x.dropSnapshot(1), 0);
        is("what it alone has", x.dropSnapshot(2), 5);
        is("as it is kept", x.charge('t', 0, 0), 60);
        x.snapshot(0, 2);
        x.give(1, 2, 0);
        is("what the tenant owns now", x.dropSnapshot(3), 0);
        x.snapshot(0, 2);
        x.give(0, 2, 1);
        is("what it owns no more", x.dropSnapshot(4), 15);
    }

    /** "its requests, as many as there is room for, behind those of the other one". */
    private static void promise21RequestsAsManyAsThereIsRoomFor() {
        for (int own = 0; own <= 12; own++) {
            for (int others : new int[] {0, 1, 6, 12}) {
                QuotaAlmshouse x = withTenants(2);
                for (int i = 0; i < own; i++) {
                    x.request(0, 1);
                }
                for (int i = 0; i < others; i++) {
                    x.request(1, 2);
                }
                x.merge(1, 0);
                int all = Math.min(12, own + others);
                if (all < 12) {
                    is("how many", x.request(0, 1), all + 1);
                } else {
                    refused("no room", STATE, () -> x.request(0, 1));
                }
                rounds(x, 3);
                is("served", x.served(0), (long) own + 2 * (all - own) + (all < 12 ? 1 : 0));
            }
        }
    }

    private static void promise21RequestsInTheirOrder() {
        QuotaAlmshouse x = withTenants(2);
        x.request(0, 20);
        x.request(0, 3);
        x.request(1, 40);
        x.request(1, 4);
        x.merge(1, 0);
        is("first round", x.round(), 0);
        is("its own ones first", x.round(), 1);
        is("20", x.served(0), 20L);
        is("its second", x.round(), 1);
        is("23", x.served(0), 23L);
        is("7 left", x.credits(0), 7);
        rounds(x, 3);
        is("the first of the others waits", x.served(0), 23L);
        is("37", x.credits(0), 37);
        is("both", x.round(), 2);
        is("67", x.served(0), 67L);
    }

    /** ".. and its credits": greater and less than 0. */
    private static void promise21Credits() {
        QuotaAlmshouse x = new QuotaAlmshouse();
        x.addTenant(1, 99);
        x.addTenant(2, 0);
        x.addTenant(3, 0);
        x.request(0, 99);
        x.request(1, 99);
        x.request(2, 99);
        x.round();
        is("owed", x.credits(0), -89);
        is("20", x.credits(1), 20);
        is("merged", x.merge(0, 1), 0);
        is("owed less", x.credits(1), -69);
        x.merge(1, 2);
        is("all", x.credits(2), -39);
        x.addTenant(1, 99);
        x.merge(3, 2);
        is("nothing", x.credits(2), -39);
        is("by the weight of the other one", x.round(), 0);
        is("-39 and 30", x.credits(2), -9);
    }

    /** Credits that come to one without requests do not stay behind its turn. */
    private static void promise21CreditsWithoutRequests() {
        QuotaAlmshouse x = withTenants(2);
        for (int i = 0; i < 12; i++) {
            x.request(0, 1);
        }
        x.request(1, 99);
        x.round();
        x.round();
        is("none waits", x.request(0, 1), 1);
        x.round();
        x.merge(1, 0);
        is("30", x.credits(0), 30);
        x.round();
        is("40, one waits", x.credits(0), 40);
        QuotaAlmshouse y = new QuotaAlmshouse();
        y.addTenant(1, 0);
        y.addTenant(9, 0);
        for (int i = 0; i < 12; i++) {
            y.request(0, 99);
        }
        y.request(1, 99);
        y.round();
        y.merge(1, 0);
        is("100", y.credits(0), 100);
        rounds(y, 1);
        is("110 less 99", y.credits(0), 11);
    }

    /** "all that it owns, holds and has reserved, what it has written on this day". */
    private static void promise21WhatBothHold() {
        QuotaAlmshouse x = house();
        x.make(0, 2, 1, 10);
        x.make(1, 2, 2, 5);
        x.snapshot(0, 0);
        x.snapshot(1, 0);
        x.delete(4);
        x.reserve(0, 3, 1, 7, 9);
        x.reserve(1, 3, 3, 3, 9);
        is("each held once", x.merge(0, 1), 25);
        is("k 1", x.charge('k', 1, 1), 17);
        is("k 2", x.charge('k', 1, 2), 5);
        is("k 3", x.charge('k', 1, 3), 3);
        is("w", x.charge('w', 1, 0), 15);
        is("sound", x.isSound(), true);
        is("a snapshot of it", x.dropSnapshot(0), 0);
        is("the bin is its own", x.restore(4), 2);
        is("owner", x.ownerOf(4), 1);
        is("given up", x.giveUp(0), 7);
        is("t", x.charge('t', 1, 0), 18);
        is("used", x.makeReserved(1, 3), 6);
        is("owner of the new one", x.ownerOf(6), 1);
    }

    /** What is gone was owned by it: nothing comes of this. */
    private static void promise21WhatIsGone() {
        QuotaAlmshouse x = house();
        x.make(0, 2, 1, 10);
        x.delete(4);
        x.reserve(0, 2, 1, 5, 1);
        x.giveUp(x.reserve(0, 2, 1, 5, 9));
        pass(x, 5);
        is("nothing", x.merge(0, 1), 0);
        is("k", x.charge('k', 1, 1), 0);
        is("sound", x.isSound(), true);
        refused("ended", ELEMENT, () -> x.giveUp(0));
        refused("given up", ELEMENT, () -> x.giveUp(1));
    }

    /** "its bounds are gone, and so is what was lost of its charges". */
    private static void promise21BoundsAndLosses() {
        QuotaAlmshouse x = house();
        x.addTenant(1, 0);
        x.make(0, 2, 1, 10);
        for (char which : CHARGES) {
            x.setBound(which, 0, 1, 5, 5, 0);
        }
        x.lose('t', 0, 0, 99);
        x.lose('k', 0, 1, -99);
        x.lose('k', 0, 3, 50);
        is("t, d and w are greater", x.breaches(), 3);
        is("what it has indeed", x.merge(0, 1), 10);
        is("the directory's bound stays", x.breaches(), 1);
        is("nothing lost", x.isSound(), true);
        is("nothing wrong", x.audit(), 0);
        x.lose('t', 1, 0, 4);
        is("the other one's loss stays", x.merge(2, 1), 14);
        is("wrong", x.audit(), 1);
    }

    private static void promise21EachKind() {
        QuotaAlmshouse x = house();
        for (int kind = 0; kind < 4; kind++) {
            x.make(0, 2, kind, 1 << kind);
            x.make(1, 2, kind, 16);
            x.reserve(0, 2, kind, 32, 9);
            x.setBound('k', 0, kind, 0, 0, 0);
            x.lose('k', 0, kind, 5 + kind);
        }
        is("breaches before", x.breaches(), 4);
        is("t", x.merge(0, 1), 64 + 128 + 15);
        for (int kind = 0; kind < 4; kind++) {
            is("kind", x.charge('k', 1, kind), 48 + (1 << kind));
        }
        is("breaches", x.breaches(), 0);
        is("sound", x.isSound(), true);
        is("nothing wrong", x.audit(), 0);
    }

    /** What others own, hold and have reserved stays theirs. */
    private static void promise21OthersStay() {
        QuotaAlmshouse x = withTenants(3);
        for (int tenant = 0; tenant < 3; tenant++) {
            x.make(tenant, 0, tenant, 10);
            x.reserve(tenant, 0, tenant, 1 + tenant, 9);
            x.request(tenant, 99);
        }
        x.snapshot(2, 0);
        x.lose('t', 2, 0, 3);
        is("merged", x.merge(0, 1), 23);
        is("the third one", x.charge('t', 2, 0), 36);
        is("its kind", x.charge('k', 2, 2), 13);
        is("written", x.charge('w', 2, 0), 10);
        is("owner", x.ownerOf(3), 2);
        is("its row", x.request(2, 1), 2);
        is("its reservation", x.makeReserved(2, 3), 4);
        is("its owner", x.ownerOf(4), 2);
        is("its snapshot", x.dropSnapshot(0), 20);
        is("its loss", x.audit(), 1);
    }

    /** "Nothing is refused for a bound": its grace begins, or it is above the hard number at once. */
    private static void promise21AboveTheBoundsOfTheOther() {
        QuotaAlmshouse x = house();
        x.make(0, 2, 1, 10);
        x.setBound('t', 1, 0, 9, 9, 3);
        x.setBound('k', 1, 1, 10, 10, 0);
        x.setBound('w', 1, 0, 5, 20, 0);
        is("merged", x.merge(0, 1), 10);
        is("grace of t", x.graceLeft('t', 1, 0), 3);
        refused("k is not greater", ELEMENT, () -> x.graceLeft('k', 1, 1));
        is("grace of w is over", x.graceLeft('w', 1, 0), 0);
        is("breaches", x.breaches(), 2);
        is("no reason", x.reason(), '-');
    }

    private static void promise22To25AnswerWithoutChange() {
        QuotaAlmshouse x = house();
        x.make(1, 2, 3, 999);
        for (int i = 0; i < 2; i++) {
            is("size", x.sizeOf(4), 999);
            is("owner", x.ownerOf(4), 1);
            is("parent", x.parentOf(4), 2);
            is("below", x.below(2), 1);
            is("below the top", x.below(0), 1);
            is("below another one", x.below(3), 0);
        }
        x.pack(4);
        is("not packed yet", x.sizeOf(4), 999);
        x.pass();
        is("packed", x.sizeOf(4), 500);
        for (int i = 5; i < 60; i++) {
            x.make(0, i % 4, 0, 1);
        }
        is("all that there can be", x.below(0), 56);
    }

    /** "the cost, 1 to 99", and a row of at most 12. */
    private static void promise27TheLastRequest() {
        QuotaAlmshouse x = new QuotaAlmshouse();
        x.addTenant(9, 99);
        x.addTenant(1, 0);
        for (int i = 1; i <= 12; i++) {
            is("how many", x.request(0, i % 2 == 0 ? 1 : 99), i);
        }
        refused("13", STATE, () -> x.request(0, 1));
        is("another row", x.request(1, 99), 1);
        is("served", x.round(), 2);
        is("room again", x.request(0, 99), 11);
        is("the last", x.request(0, 99), 12);
        refused("13 again", STATE, () -> x.request(0, 1));
    }

    /** "if its cost is not greater than its credits plus its burst". */
    private static void promise28CreditsAndBurst() {
        for (int weight = 1; weight <= 9; weight++) {
            for (int burst : new int[] {0, 1, 8, 9}) {
                QuotaAlmshouse x = new QuotaAlmshouse();
                x.addTenant(weight, burst);
                x.request(0, 10 * weight + burst);
                is("as great", x.round(), 1);
                is("the burst is owed", x.credits(0), -burst);
                is("sum", x.served(0), (long) 10 * weight + burst);
                QuotaAlmshouse y = new QuotaAlmshouse();
                y.addTenant(weight, burst);
                if (10 * weight + burst < 99) {
                    y.request(0, 10 * weight + burst + 1);
                    is("one greater", y.round(), 0);
                    is("credits", y.credits(0), 10 * weight);
                    is("nothing", y.served(0), 0L);
                }
            }
        }
    }

    /** "its first request is served, as long as there is one". */
    private static void promise28TheFirstOfTheRow() {
        QuotaAlmshouse x = new QuotaAlmshouse();
        x.addTenant(3, 0);
        x.request(0, 10);
        x.request(0, 20);
        x.request(0, 31);
        x.request(0, 1);
        is("two, and no credits are left", x.round(), 2);
        is("0", x.credits(0), 0);
        is("the first hinders the others", x.round(), 0);
        is("30", x.credits(0), 30);
        is("both", x.round(), 2);
        is("28 become 0", x.credits(0), 0);
        is("63 less 1", x.served(0), 62L);
        is("none", x.round(), 0);
        is("nothing comes without requests", x.credits(0), 0);
        for (int i = 0; i < 12; i++) {
            x.request(0, 2);
        }
        is("a whole row", x.round(), 12);
    }

    /** "Without requests, at the end of its turn, credits greater than 0 become 0". */
    private static void promise28CreditsAtTheEndOfATurn() {
        for (int cost = 18; cost <= 22; cost++) {
            QuotaAlmshouse x = new QuotaAlmshouse();
            x.addTenant(2, 5);
            x.request(0, cost);
            x.round();
            is("20 less " + cost, x.credits(0), Math.min(0, 20 - cost));
        }
        QuotaAlmshouse y = new QuotaAlmshouse();
        y.addTenant(2, 5);
        y.request(0, 1);
        y.request(0, 99);
        y.round();
        is("with requests they stay", y.credits(0), 19);
        y.round();
        is("and increase", y.credits(0), 39);
    }

    /** "increase by its weight, to 0 at most, in each turn without requests at its beginning". */
    private static void promise28WhatIsOwed() {
        for (int weight = 1; weight <= 9; weight++) {
            QuotaAlmshouse x = new QuotaAlmshouse();
            x.addTenant(weight, 9);
            x.request(0, 10 * weight + 9);
            x.round();
            int owed = 9;
            is("not in the turn in which it was served", x.credits(0), -owed);
            while (owed > 0) {
                x.round();
                owed = Math.max(0, owed - weight);
                is("owed", x.credits(0), -owed);
            }
            x.round();
            is("0 at most", x.credits(0), 0);
            x.request(0, 10 * weight + 9);
            x.round();
            x.request(0, 10 * weight);
            is("with requests, ten times the weight", x.round(), 1);
            is("owed still", x.credits(0), -9);
        }
    }

    /** The turns of all, and of none that is gone. */
    private static void promise28AllTenants() {
        QuotaAlmshouse x = withTenants(5);
        for (int tenant = 0; tenant < 5; tenant++) {
            x.request(tenant, 10);
            x.request(tenant, 10);
        }
        is("each one", x.round(), 5);
        x.merge(4, 0);
        is("each one not gone", x.round(), 4);
        is("the rest", x.round(), 1);
        is("none", x.round(), 0);
        is("served of the heir", x.served(0), 30L);
    }

    private static void promise30SumsOfAll() {
        QuotaAlmshouse x = new QuotaAlmshouse();
        x.addTenant(9, 99);
        long sum = 0;
        for (int i = 0; i < 100; i++) {
            x.request(0, 1 + i % 90);
            sum += 1 + i % 90;
            is("one", x.round(), 1);
            is("sum", x.served(0), sum);
        }
    }

    /** "-99 to 99". */
    private static void promise31TheLeastAndGreatestChanges() {
        for (char which : new char[] {'t', 'd', 'k'}) {
            QuotaAlmshouse x = house();
            x.make(0, 2, 1, 10);
            is("least", x.lose(which, 0, 1, -99), -89);
            is("again", x.lose(which, 0, 1, -99), -188);
            is("greatest", x.lose(which, 0, 1, 99), -89);
            is("none", x.lose(which, 0, 1, 0), -89);
            is("back", x.lose(which, 0, 1, 99), 10);
            is("kept", x.charge(which, 0, 1), 10);
            is("sound", x.isSound(), true);
            x.lose(which, 0, 1, 1);
            is("not sound", x.isSound(), false);
            for (char other : CHARGES) {
                is("others stay", x.charge(other, 0, 1), other == which ? 11 : 10);
            }
        }
    }

    /** "no grace changes by this". */
    private static void promise31NoGraceChanges() {
        for (char which : new char[] {'t', 'd', 'k'}) {
            QuotaAlmshouse x = house();
            x.make(0, 2, 1, 10);
            x.setBound(which, 0, 1, 10, 99, 4);
            x.lose(which, 0, 1, 1);
            refused("it does not begin", ELEMENT, () -> x.graceLeft(which, 0, 1));
            x.audit();
            refused("nor has it", ELEMENT, () -> x.graceLeft(which, 0, 1));
            x.write(4, 11);
            is("begun", x.graceLeft(which, 0, 1), 4);
            x.lose(which, 0, 1, -1);
            is("it does not end", x.graceLeft(which, 0, 1), 4);
        }
    }

    /** "Returns how many were wrong": each once, however much was lost. */
    private static void promise32EachWrongOneOnce() {
        QuotaAlmshouse x = house();
        x.make(0, 2, 1, 10);
        x.make(1, 2, 1, 10);
        int wrong = 0;
        for (int tenant = 0; tenant < 2; tenant++) {
            x.lose('t', tenant, 0, tenant * 2 - 1);
            wrong++;
            for (int kind = 0; kind < 4; kind++) {
                x.lose('k', tenant, kind, 99);
                x.lose('k', tenant, kind, -98);
                wrong++;
            }
        }
        for (int directory = 0; directory < 4; directory++) {
            x.lose('d', directory, 0, -99);
            wrong++;
        }
        is("sound", x.isSound(), false);
        is("all", x.audit(), wrong);
        is("set right", x.isSound(), true);
        is("none", x.audit(), 0);
        is("t", x.charge('t', 1, 0), 10);
        is("d", x.charge('d', 0, 0), 20);
        is("k", x.charge('k', 0, 0), 0);
        is("w", x.charge('w', 0, 0), 10);
    }

    /** An audit sets what is above its numbers right, and what was below them. */
    private static void promise32GracesBehindAnAudit() {
        QuotaAlmshouse x = house();
        x.make(0, 2, 1, 10);
        x.setBound('t', 0, 0, 9, 99, 2);
        x.setBound('k', 0, 1, 10, 99, 2);
        x.setBound('d', 0, 0, 9, 99, 2);
        x.pass();
        x.lose('t', 0, 0, -1);
        x.lose('k', 0, 1, 1);
        x.lose('d', 0, 0, -5);
        x.make(1, 1, 0, 4);
        refused("t at its soft number", ELEMENT, () -> x.graceLeft('t', 0, 0));
        is("k above it", x.graceLeft('k', 0, 1), 2);
        refused("d at its soft number", ELEMENT, () -> x.graceLeft('d', 0, 0));
        is("wrong", x.audit(), 3);
        is("t begins", x.graceLeft('t', 0, 0), 2);
        refused("k ends", ELEMENT, () -> x.graceLeft('k', 0, 1));
        is("d begins", x.graceLeft('d', 0, 0), 2);
    }

    /** "greater than their hard numbers, or than their soft ones with their grace over". */
    private static void promise33JustAtAndAbove() {
        for (char which : CHARGES) {
            QuotaAlmshouse x = house();
            x.make(0, 2, 1, 10);
            x.setBound(which, 0, 1, 10, 10, 0);
            is("at both", x.breaches(), 0);
            x.setBound(which, 0, 1, 9, 10, 1);
            is("above the soft one", x.breaches(), 0);
            x.setBound(which, 0, 1, 9, 10, 0);
            is("above the soft one, grace over", x.breaches(), 1);
            x.setBound(which, 0, 1, 9, 9, 9);
            is("above the hard one", x.breaches(), 1);
            x.setBound(which, 0, 1, 9, 9, 0);
            is("above both is one", x.breaches(), 1);
        }
    }

    private static void promise33EachChargeOnce() {
        QuotaAlmshouse x = house();
        x.make(0, 2, 1, 10);
        x.make(1, 2, 1, 10);
        int due = 0;
        for (char which : CHARGES) {
            for (int of = 0; of < 2; of++) {
                x.setBound(which, of, 1, 0, 0, 9);
                due++;
                is("one more", x.breaches(), due);
            }
        }
        x.pass();
        is("w ends", x.breaches(), 6);
        x.lose('t', 0, 0, -10);
        is("as it is kept", x.breaches(), 5);
        x.delete(4);
        is("d of the top is 10", x.breaches(), 5);
        x.delete(5);
        is("d is 0", x.breaches(), 3);
    }

    /** "divided by the greatest one .. both converted to float". */
    private static void promise34Shares() {
        for (int cost = 1; cost <= 99; cost++) {
            QuotaAlmshouse x = new QuotaAlmshouse();
            x.addTenant(9, 99);
            x.addTenant(9, 99);
            x.request(0, 97);
            x.request(1, cost);
            x.round();
            is("share", x.fairness(), cost < 97 ? (float) cost / 97f : 97f / (float) cost);
        }
    }

    private static void promise34TheLeastAndGreatest() {
        QuotaAlmshouse x = new QuotaAlmshouse();
        refused("no tenants", ELEMENT, x::fairness);
        x.addTenant(9, 99);
        refused("the greatest one is 0", ELEMENT, x::fairness);
        x.request(0, 1);
        x.round();
        is("alone", x.fairness(), 1f);
        x.addTenant(9, 99);
        is("the least one is 0", x.fairness(), 0f);
        x.request(1, 3);
        x.addTenant(9, 99);
        x.request(2, 2);
        x.round();
        is("of three", x.fairness(), 1f / 3f);
        x.merge(0, 2);
        is("of those not gone", x.fairness(), 2f / 3f);
        x.merge(1, 2);
        is("one is left", x.fairness(), 1f);
        x.addTenant(1, 1);
        x.merge(2, 3);
        refused("what was served is gone", ELEMENT, x::fairness);
    }

    /** Each charge by itself makes it unsound, by one. */
    private static void promise35ByOne() {
        for (int change : new int[] {-99, -1, 1, 99}) {
            for (char which : new char[] {'t', 'd', 'k'}) {
                for (int of = 0; of < (which == 'd' ? 4 : 2); of++) {
                    for (int kind = 0; kind < (which == 'k' ? 4 : 1); kind++) {
                        QuotaAlmshouse x = house();
                        x.make(0, 2, 1, 10);
                        is("sound", x.isSound(), true);
                        x.lose(which, of, kind, change);
                        is("not sound", x.isSound(), false);
                        is("one is wrong", x.audit(), 1);
                        is("sound again", x.isSound(), true);
                    }
                }
            }
        }
    }

    public static void main(String[] args) throws Exception {
        runAll(EdgeTests.class);
    }
}
