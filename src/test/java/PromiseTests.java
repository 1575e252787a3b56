/** For each promise of the document: ordinary inputs, the edges that it names, and wrong inputs. */
public final class PromiseTests extends Checks {
    private static void promise1NewObject() {
        QuotaAlmshouse x = new QuotaAlmshouse();
        is("1 below", x.below(0), 0);
        is("1 charge", x.charge('d', 0, 0), 0);
        is("1 reason", x.reason(), '-');
        is("1 sound", x.isSound(), true);
        is("1 round", x.round(), 0);
        is("1 breaches", x.breaches(), 0);
        is("1 audit", x.audit(), 0);
        refused("1 no tenant", INDEX, () -> x.credits(0));
        refused("1 no node but the top", ELEMENT, () -> x.below(1));
        is("1 day", x.pass(), 1);
        QuotaAlmshouse other = withTenants(1);
        other.make(0, 0, 0, 5);
        is("1 objects are apart", x.charge('d', 0, 0), 0);
    }

    private static void promise2AddTenant() {
        QuotaAlmshouse x = new QuotaAlmshouse();
        is("2 first", x.addTenant(1, 0), 0);
        is("2 second", x.addTenant(9, 99), 1);
        refused("2 weight 0", ARGUMENT, () -> x.addTenant(0, 0));
        refused("2 weight 10", ARGUMENT, () -> x.addTenant(10, 0));
        refused("2 burst -1", ARGUMENT, () -> x.addTenant(1, -1));
        refused("2 burst 100", ARGUMENT, () -> x.addTenant(1, 100));
        is("2 third", x.addTenant(5, 5), 2);
        x.merge(2, 0);
        is("2 numbers are not used again", x.addTenant(5, 5), 3);
        is("2 fifth", x.addTenant(5, 5), 4);
        refused("2 there were 5", STATE, () -> x.addTenant(5, 5));
        refused("2 argument before state", ARGUMENT, () -> x.addTenant(0, 5));
    }

    private static void promise3AddDirectory() {
        QuotaAlmshouse x = withTenants(1);
        is("3 first", x.addDirectory(0), 1);
        is("3 in another", x.addDirectory(1), 2);
        is("3 parent", x.parentOf(2), 1);
        refused("3 none", ELEMENT, () -> x.addDirectory(3));
        refused("3 negative", ELEMENT, () -> x.addDirectory(-1));
        is("3 file", x.make(0, 2, 0, 1), 3);
        refused("3 a file is no directory", ELEMENT, () -> x.addDirectory(3));
        x.delete(3);
        pass(x, 5);
        fillNodes(x, 4);
        is("3 the 60th", x.parentOf(59), 0);
        refused("3 60 nodes, one of them gone", STATE, () -> x.addDirectory(0));
        refused("3 element before state", ELEMENT, () -> x.addDirectory(60));
    }

    private static void promise4SetBound() {
        QuotaAlmshouse x = house();
        x.make(0, 2, 1, 20);
        is("4 t", x.setBound('t', 0, 9, 20, 20, 3), 20);
        is("4 d", x.setBound('d', 1, -1, 19, 20, 3), 20);
        is("4 k", x.setBound('k', 0, 1, 0, 9999, 99), 20);
        is("4 w", x.setBound('w', 0, 77, 9999, 9999, 0), 20);
        refused("4 not greater than soft", ELEMENT, () -> x.graceLeft('t', 0, 0));
        is("4 greater than soft now", x.graceLeft('d', 1, 0), 3);
        is("4 longest grace", x.graceLeft('k', 0, 1), 99);
        x.pass();
        is("4 a day less", x.graceLeft('d', 1, 0), 2);
        x.setBound('d', 1, 0, 19, 20, 3);
        is("4 begins anew with another bound", x.graceLeft('d', 1, 0), 3);
        x.setBound('d', 1, 0, 20, 20, 3);
        refused("4 has not begun any more", ELEMENT, () -> x.graceLeft('d', 1, 0));
        x.lose('t', 0, 0, 5);
        is("4 as it is kept", x.setBound('t', 0, 0, 24, 24, 1), 25);
        is("4 grace as it is kept", x.graceLeft('t', 0, 0), 1);
        promise4Refusals(x);
    }

    private static void promise4Refusals(QuotaAlmshouse x) {
        refused("4 which", ARGUMENT, () -> x.setBound('x', 0, 0, 1, 2, 3));
        refused("4 kind 4", ARGUMENT, () -> x.setBound('k', 0, 4, 1, 2, 3));
        refused("4 kind -1", ARGUMENT, () -> x.setBound('k', 0, -1, 1, 2, 3));
        refused("4 soft -1", ARGUMENT, () -> x.setBound('t', 0, 0, -1, 2, 3));
        refused("4 soft and hard 10000", ARGUMENT, () -> x.setBound('t', 0, 0, 10000, 10000, 3));
        refused("4 hard 10000", ARGUMENT, () -> x.setBound('t', 0, 0, 1, 10000, 3));
        refused("4 hard less", ARGUMENT, () -> x.setBound('t', 0, 0, 2, 1, 3));
        refused("4 grace -1", ARGUMENT, () -> x.setBound('t', 0, 0, 2, 2, -1));
        refused("4 grace 100", ARGUMENT, () -> x.setBound('t', 0, 0, 2, 2, 100));
        refused("4 argument before index", ARGUMENT, () -> x.setBound('t', 9, 0, 2, 2, 100));
        refused("4 no tenant", INDEX, () -> x.setBound('t', 2, 0, 2, 2, 0));
        refused("4 tenant -1", INDEX, () -> x.setBound('w', -1, 0, 2, 2, 0));
        refused("4 no directory", INDEX, () -> x.setBound('d', 9, 0, 2, 2, 0));
        refused("4 a file", INDEX, () -> x.setBound('d', 4, 0, 2, 2, 0));
        x.merge(0, 1);
        refused("4 gone", INDEX, () -> x.setBound('k', 0, 0, 2, 2, 0));
    }

    private static void promise5Charge() {
        QuotaAlmshouse x = house();
        x.make(0, 2, 1, 20);
        x.make(1, 1, 1, 3);
        x.reserve(0, 3, 1, 7, 5);
        x.write(4, 10);
        is("5 t", x.charge('t', 0, 0), 17);
        is("5 t of the other", x.charge('t', 1, 0), 3);
        is("5 top", x.charge('d', 0, 0), 20);
        is("5 d", x.charge('d', 1, 0), 13);
        is("5 d below", x.charge('d', 2, 0), 10);
        is("5 d with what is reserved", x.charge('d', 3, 0), 7);
        is("5 k", x.charge('k', 0, 1), 17);
        is("5 another k", x.charge('k', 0, 0), 0);
        is("5 w", x.charge('w', 0, 0), 30);
        is("5 kind of no meaning", x.charge('t', 0, 99), 17);
        x.lose('d', 1, 0, 4);
        is("5 as it is kept", x.charge('d', 1, 0), 17);
        refused("5 which", ARGUMENT, () -> x.charge('T', 0, 0));
        refused("5 kind", ARGUMENT, () -> x.charge('k', 7, 4));
        refused("5 tenant", INDEX, () -> x.charge('t', 2, 0));
        refused("5 directory", INDEX, () -> x.charge('d', 6, 0));
        refused("5 file", INDEX, () -> x.charge('d', 4, 0));
        refused("5 which before tenant", ARGUMENT, () -> x.charge('-', 9, 0));
        x.merge(1, 0);
        refused("5 gone", INDEX, () -> x.charge('w', 1, 0));
    }

    private static void promise6ChargeAnew() {
        QuotaAlmshouse x = house();
        x.make(0, 2, 1, 20);
        x.reserve(0, 1, 1, 7, 5);
        x.snapshot(1, 0);
        x.write(4, 5);
        x.lose('t', 0, 0, 3);
        x.lose('t', 1, 0, 3);
        x.lose('d', 0, 0, -3);
        x.lose('k', 0, 1, 9);
        is("6 t", x.chargeAnew('t', 0, 0), 12);
        is("6 t by a snapshot", x.chargeAnew('t', 1, 0), 20);
        is("6 top", x.chargeAnew('d', 0, 0), 12);
        is("6 d", x.chargeAnew('d', 2, 0), 5);
        is("6 k", x.chargeAnew('k', 0, 1), 12);
        is("6 w is the one kept", x.chargeAnew('w', 0, 0), 25);
        is("6 nothing is set right", x.charge('k', 0, 1), 21);
        x.delete(4);
        is("6 in the bin, d", x.chargeAnew('d', 0, 0), 7);
        is("6 in the bin, k", x.chargeAnew('k', 0, 1), 12);
        is("6 in the bin, t", x.chargeAnew('t', 0, 0), 12);
        refused("6 which", ARGUMENT, () -> x.chargeAnew('x', 0, 0));
        refused("6 kind", ARGUMENT, () -> x.chargeAnew('k', 9, -1));
        refused("6 tenant", INDEX, () -> x.chargeAnew('w', 2, 0));
        refused("6 directory", INDEX, () -> x.chargeAnew('d', -1, 0));
        x.merge(0, 1);
        refused("6 gone", INDEX, () -> x.chargeAnew('t', 0, 0));
    }

    private static void promise7Reason() {
        QuotaAlmshouse x = house();
        is("7 none", x.reason(), '-');
        x.setBound('w', 0, 0, 10, 10, 0);
        refusedFor(x, "7 w", 'w', () -> x.make(0, 2, 0, 11));
        x.setBound('k', 0, 0, 10, 10, 0);
        refusedFor(x, "7 k before w", 'k', () -> x.make(0, 2, 0, 11));
        x.setBound('d', 1, 0, 10, 10, 0);
        refusedFor(x, "7 d before k", 'd', () -> x.make(0, 2, 0, 11));
        x.setBound('t', 0, 0, 10, 10, 0);
        refusedFor(x, "7 t before d", 't', () -> x.make(0, 2, 0, 11));
        x.make(0, 2, 0, 10);
        is("7 stays behind another act", x.reason(), 't');
        refused("7 another exception", ARGUMENT, () -> x.make(0, 2, 0, 0));
        is("7 stays behind another exception", x.reason(), 't');
        x.pass();
        refusedFor(x, "7 write, t first", 't', () -> x.write(4, 11));
        x.setBound('t', 0, 0, 99, 99, 0);
        refusedFor(x, "7 write, d first", 'd', () -> x.write(4, 11));
    }

    private static void promise8GraceLeft() {
        QuotaAlmshouse x = house();
        x.setBound('d', 1, 0, 10, 30, 2);
        refused("8 no bound", ELEMENT, () -> x.graceLeft('d', 2, 0));
        refused("8 not begun", ELEMENT, () -> x.graceLeft('d', 1, 0));
        x.make(0, 2, 0, 10);
        refused("8 not greater", ELEMENT, () -> x.graceLeft('d', 1, 0));
        x.pass();
        x.write(4, 11);
        is("8 begins", x.graceLeft('d', 1, 0), 2);
        x.write(4, 12);
        x.pass();
        x.write(4, 13);
        is("8 a day later", x.graceLeft('d', 1, 0), 1);
        x.pass();
        is("8 over", x.graceLeft('d', 1, 0), 0);
        x.pass();
        is("8 over for long", x.graceLeft('d', 1, 0), 0);
        refusedFor(x, "8 greater than soft, grace over", 'd', () -> x.write(4, 14));
        is("8 not greater than before", x.write(4, 13), 13);
        is("8 less", x.write(4, 11), 13);
        is("8 it goes on", x.graceLeft('d', 1, 0), 0);
        x.write(4, 10);
        refused("8 ended", ELEMENT, () -> x.graceLeft('d', 1, 0));
        x.write(4, 30);
        is("8 anew", x.graceLeft('d', 1, 0), 2);
        refused("8 which", ARGUMENT, () -> x.graceLeft('e', 9, 0));
        refused("8 kind", ARGUMENT, () -> x.graceLeft('k', 9, 5));
        refused("8 tenant", INDEX, () -> x.graceLeft('t', 2, 0));
        refused("8 directory", INDEX, () -> x.graceLeft('d', 4, 0));
    }

    private static void promise8Drift() {
        QuotaAlmshouse x = house();
        x.setBound('t', 0, 0, 10, 30, 0);
        x.make(0, 2, 0, 10);
        x.lose('t', 0, 0, 1);
        refused("8 no grace changes by a loss", ELEMENT, () -> x.graceLeft('t', 0, 0));
        is("8 not over yet", x.write(4, 11), 10);
        is("8 behind the act", x.graceLeft('t', 0, 0), 0);
        x.lose('t', 0, 0, -5);
        is("8 does not end by a loss", x.graceLeft('t', 0, 0), 0);
        x.pack(4);
        x.round();
        x.addDirectory(0);
        is("8 acts that change no charge", x.graceLeft('t', 0, 0), 0);
        x.audit();
        is("8 behind an audit", x.graceLeft('t', 0, 0), 0);
        x.lose('t', 0, 0, -5);
        x.giveUp(x.reserve(1, 3, 0, 1, 1));
        refused("8 all charges are looked at", ELEMENT, () -> x.graceLeft('t', 0, 0));
        x.setBound('w', 1, 0, 0, 99, 1);
        x.make(1, 3, 0, 5);
        is("8 w", x.graceLeft('w', 1, 0), 1);
        x.pass();
        refused("8 w ends with the day", ELEMENT, () -> x.graceLeft('w', 1, 0));
    }

    /** A file 4 in the tree, a file 5 in the bin, two reservations, a snapshot, and a loss that no one saw. */
    private static QuotaAlmshouse withUnseenLoss() {
        QuotaAlmshouse x = house();
        x.make(0, 2, 1, 10);
        x.make(0, 2, 1, 10);
        x.delete(5);
        x.reserve(0, 2, 1, 5, 9);
        x.reserve(0, 2, 1, 5, 9);
        x.snapshot(0, 0);
        x.setBound('d', 3, 0, 0, 99, 7);
        x.lose('d', 3, 0, 1);
        return x;
    }

    private static void promise8Acts() {
        Act[] looking = {x -> x.make(1, 0, 0, 1), x -> x.write(4, 10), x -> x.makeReserved(0, 5),
            x -> x.reserve(1, 0, 0, 1, 1), x -> x.giveUp(1), x -> x.move(2, 0), x -> x.give(0, 0, 1),
            x -> x.give(1, 0, 0), x -> x.delete(4), x -> x.restore(5), x -> x.snapshot(1, 3),
            x -> x.dropSnapshot(0), x -> x.merge(1, 0), x -> x.pass()};
        for (int i = 0; i < looking.length; i++) {
            QuotaAlmshouse x = withUnseenLoss();
            looking[i].on(x);
            is("8 grace begins behind act " + i, x.graceLeft('d', 3, 0), 7);
        }
        Act[] others = {x -> x.addTenant(1, 1), x -> x.addDirectory(3), x -> x.setBound('t', 0, 0, 1, 2, 3),
            x -> x.pack(4), x -> x.request(0, 1), x -> x.round(), x -> x.lose('d', 3, 0, 1),
            x -> x.chargeAnew('d', 3, 0), x -> x.isSound(), x -> x.breaches()};
        for (int i = 0; i < others.length; i++) {
            QuotaAlmshouse x = withUnseenLoss();
            others[i].on(x);
            refused("8 no charge is changed by " + i, ELEMENT, () -> x.graceLeft('d', 3, 0));
        }
        QuotaAlmshouse x = withUnseenLoss();
        x.setBound('t', 1, 0, 0, 0, 0);
        refused("8 refused", BOUND, () -> x.make(1, 0, 0, 1));
        refused("8 a refused act changes nothing", ELEMENT, () -> x.graceLeft('d', 3, 0));
    }

    private static void promise9Make() {
        QuotaAlmshouse x = house();
        is("9 number", x.make(0, 2, 3, 999), 4);
        is("9 size", x.sizeOf(4), 999);
        is("9 owner", x.ownerOf(4), 0);
        is("9 parent", x.parentOf(4), 2);
        is("9 next", x.make(1, 0, 0, 1), 5);
        refused("9 tenant", INDEX, () -> x.make(2, 9, 9, 0));
        refused("9 directory", ELEMENT, () -> x.make(0, 9, 9, 0));
        refused("9 a file is no directory", ELEMENT, () -> x.make(0, 4, 0, 1));
        refused("9 kind 4", ARGUMENT, () -> x.make(0, 0, 4, 1));
        refused("9 kind -1", ARGUMENT, () -> x.make(0, 0, -1, 1));
        refused("9 size 0", ARGUMENT, () -> x.make(0, 0, 0, 0));
        refused("9 size 1000", ARGUMENT, () -> x.make(0, 0, 0, 1000));
        x.setBound('d', 0, 0, 1000, 1001, 0);
        refused("9 argument before bound", ARGUMENT, () -> x.make(0, 0, 0, 1000));
        refusedFor(x, "9 bound", 'd', () -> x.make(0, 2, 0, 2));
        is("9 to the hard number", x.make(0, 2, 0, 1), 6);
        fillNodes(x, 7);
        refused("9 bound before state", BOUND, () -> x.make(0, 2, 0, 1));
        x.setBound('d', 0, 0, 2000, 2001, 0);
        refused("9 60 nodes", STATE, () -> x.make(0, 2, 0, 1));
        is("9 nothing is changed", x.charge('t', 0, 0), 1000);
        x.merge(0, 1);
        refused("9 gone", INDEX, () -> x.make(0, 0, 0, 1));
    }

    private static void promise10Write() {
        QuotaAlmshouse x = house();
        x.make(0, 2, 1, 20);
        is("10 size before", x.write(4, 999), 20);
        is("10 then", x.write(4, 5), 999);
        is("10 size", x.sizeOf(4), 5);
        is("10 written", x.charge('w', 0, 0), 1024);
        is("10 k", x.charge('k', 0, 1), 5);
        x.snapshot(0, 1);
        x.write(4, 7);
        is("10 held by the own snapshot too", x.charge('t', 0, 0), 12);
        is("10 d", x.charge('d', 1, 0), 7);
        x.setBound('t', 0, 0, 12, 12, 0);
        is("10 as much again", x.write(4, 7), 7);
        refusedFor(x, "10 t", 't', () -> x.write(4, 8));
        x.snapshot(0, 1);
        refusedFor(x, "10 the old one goes on being held", 't', () -> x.write(4, 1));
        x.dropSnapshot(1);
        is("10 the old one is let go", x.write(4, 1), 7);
        x.setBound('w', 0, 0, 1050, 1050, 0);
        is("10 w before", x.charge('w', 0, 0), 1039);
        x.setBound('t', 0, 0, 99, 99, 0);
        refusedFor(x, "10 w", 'w', () -> x.write(4, 12));
        is("10 w to the hard number", x.write(4, 11), 1);
        x.pass();
        x.setBound('k', 0, 1, 11, 11, 0);
        refusedFor(x, "10 k", 'k', () -> x.write(4, 12));
        x.setBound('d', 0, 0, 11, 11, 0);
        refusedFor(x, "10 d", 'd', () -> x.write(4, 12));
        refused("10 no file", ELEMENT, () -> x.write(5, 0));
        refused("10 directory", ELEMENT, () -> x.write(2, 5));
        refused("10 size 0", ARGUMENT, () -> x.write(4, 0));
        refused("10 size 1000", ARGUMENT, () -> x.write(4, 1000));
        x.delete(4);
        refused("10 in the bin", ELEMENT, () -> x.write(4, 5));
        pass(x, 5);
        refused("10 gone", ELEMENT, () -> x.write(4, 5));
    }

    private static void promise11MakeReserved() {
        QuotaAlmshouse x = house();
        x.reserve(0, 2, 1, 10, 3);
        x.reserve(1, 3, 2, 10, 3);
        x.setBound('d', 1, 0, 10, 10, 0);
        refusedFor(x, "11 greater than the room", 'd', () -> x.makeReserved(0, 11));
        refused("11 size 0", ARGUMENT, () -> x.makeReserved(0, 0));
        refused("11 size 1000", ARGUMENT, () -> x.makeReserved(0, 1000));
        is("11 file", x.makeReserved(0, 10), 4);
        is("11 owner", x.ownerOf(4), 0);
        is("11 parent", x.parentOf(4), 2);
        is("11 kind", x.charge('k', 0, 1), 10);
        is("11 t", x.charge('t', 0, 0), 10);
        is("11 written as a whole", x.charge('w', 0, 0), 10);
        refused("11 ended", ELEMENT, () -> x.makeReserved(0, 0));
        refused("11 none", ELEMENT, () -> x.makeReserved(2, 1));
        refused("11 negative", ELEMENT, () -> x.makeReserved(-1, 1));
        x.setBound('w', 1, 0, 4, 4, 0);
        x.setBound('k', 1, 2, 1, 1, 0);
        refusedFor(x, "11 w is not reserved", 'w', () -> x.makeReserved(1, 5));
        fillNodes(x, 5);
        refused("11 bound before state", BOUND, () -> x.makeReserved(1, 5));
        refused("11 60 nodes", STATE, () -> x.makeReserved(1, 4));
        is("11 it is kept then", x.giveUp(1), 10);
        QuotaAlmshouse y = house();
        y.reserve(0, 2, 1, 10, 3);
        y.setBound('k', 0, 1, 1, 1, 0);
        is("11 a smaller file makes nothing greater", y.makeReserved(0, 4), 4);
        is("11 the rest is free", y.charge('d', 0, 0), 4);
        y.reserve(0, 2, 2, 10, 3);
        y.setBound('k', 0, 2, 10, 10, 0);
        refusedFor(y, "11 k", 'k', () -> y.makeReserved(1, 11));
        y.setBound('t', 0, 0, 14, 14, 0);
        refusedFor(y, "11 t", 't', () -> y.makeReserved(1, 11));
    }

    private static void promise12Reserve() {
        QuotaAlmshouse x = house();
        is("12 first", x.reserve(0, 2, 3, 999, 20), 0);
        is("12 second", x.reserve(1, 0, 0, 1, 1), 1);
        is("12 t", x.charge('t', 0, 0), 999);
        is("12 d above", x.charge('d', 1, 0), 999);
        is("12 k", x.charge('k', 0, 3), 999);
        is("12 nothing is written", x.charge('w', 0, 0), 0);
        x.pass();
        is("12 ended at its last day", x.charge('d', 0, 0), 999);
        pass(x, 18);
        is("12 still reserved", x.charge('d', 0, 0), 999);
        x.pass();
        is("12 ended after 20 days", x.charge('d', 0, 0), 0);
        refused("12 tenant", INDEX, () -> x.reserve(2, 9, 9, 0, 0));
        refused("12 directory", ELEMENT, () -> x.reserve(0, 9, 9, 0, 0));
        refused("12 kind", ARGUMENT, () -> x.reserve(0, 0, 4, 1, 1));
        refused("12 size 0", ARGUMENT, () -> x.reserve(0, 0, 0, 0, 1));
        refused("12 size 1000", ARGUMENT, () -> x.reserve(0, 0, 0, 1000, 1));
        refused("12 days 0", ARGUMENT, () -> x.reserve(0, 0, 0, 1, 0));
        refused("12 days 21", ARGUMENT, () -> x.reserve(0, 0, 0, 1, 21));
        x.setBound('w', 0, 0, 0, 0, 0);
        x.setBound('k', 0, 1, 5, 5, 0);
        refusedFor(x, "12 k", 'k', () -> x.reserve(0, 0, 1, 6, 1));
        x.setBound('d', 1, 0, 5, 5, 0);
        refusedFor(x, "12 d", 'd', () -> x.reserve(0, 2, 1, 6, 1));
        x.setBound('t', 0, 0, 5, 5, 0);
        refusedFor(x, "12 t", 't', () -> x.reserve(0, 2, 1, 6, 1));
        for (int i = 2; i < 20; i++) {
            is("12 numbers", x.reserve(1, 0, 0, 1, 9), i);
            x.giveUp(i);
        }
        refused("12 bound before state", BOUND, () -> x.reserve(0, 2, 1, 6, 1));
        refused("12 there were 20", STATE, () -> x.reserve(1, 0, 0, 1, 9));
    }

    private static void promise13GiveUp() {
        QuotaAlmshouse x = house();
        x.reserve(0, 2, 1, 10, 3);
        x.reserve(0, 2, 1, 4, 1);
        x.setBound('t', 0, 0, 13, 20, 5);
        is("13 size", x.giveUp(0), 10);
        is("13 t", x.charge('t', 0, 0), 4);
        is("13 d", x.charge('d', 1, 0), 4);
        is("13 k", x.charge('k', 0, 1), 4);
        refused("13 the grace ends", ELEMENT, () -> x.graceLeft('t', 0, 0));
        refused("13 twice", ELEMENT, () -> x.giveUp(0));
        refused("13 none", ELEMENT, () -> x.giveUp(2));
        refused("13 negative", ELEMENT, () -> x.giveUp(-1));
        x.pass();
        refused("13 ended with the day", ELEMENT, () -> x.giveUp(1));
    }

    private static void promise14Pack() {
        QuotaAlmshouse x = house();
        x.make(0, 2, 1, 9);
        x.make(0, 2, 1, 1);
        is("14 half, rounded up", x.pack(4), 5);
        is("14 of 1", x.pack(5), 1);
        is("14 not yet", x.sizeOf(4), 9);
        refused("14 twice", STATE, () -> x.pack(4));
        x.pass();
        is("14 with the next day", x.sizeOf(4), 5);
        is("14 t", x.charge('t', 0, 0), 6);
        is("14 d", x.charge('d', 1, 0), 6);
        is("14 k", x.charge('k', 0, 1), 6);
        is("14 not written", x.charge('w', 0, 0), 0);
        is("14 again", x.pack(4), 3);
        x.write(4, 8);
        is("14 written: not to be packed", x.pack(4), 4);
        x.write(4, 7);
        x.pass();
        is("14 it was not packed", x.sizeOf(4), 7);
        x.pack(4);
        x.delete(4);
        x.restore(4);
        x.pass();
        is("14 deleted: not packed", x.sizeOf(4), 7);
        x.pack(4);
        x.snapshot(1, 0);
        x.pass();
        is("14 in a snapshot of anyone", x.sizeOf(4), 7);
        is("14 not to be packed any more", x.pack(4), 4);
        x.dropSnapshot(0);
        x.give(0, 0, 1);
        x.move(4, 3);
        x.pass();
        is("14 dropped before the day", x.sizeOf(4), 4);
        is("14 of the new owner", x.charge('t', 1, 0), 5);
        refused("14 none", ELEMENT, () -> x.pack(6));
        refused("14 directory", ELEMENT, () -> x.pack(2));
        x.pack(4);
        x.delete(4);
        refused("14 in the bin", ELEMENT, () -> x.pack(4));
        pass(x, 5);
        refused("14 gone", ELEMENT, () -> x.pack(4));
    }

    private static void promise15Move() {
        QuotaAlmshouse x = house();
        x.make(0, 2, 0, 10);
        x.make(1, 1, 0, 5);
        x.make(1, 2, 0, 50);
        x.delete(6);
        x.reserve(0, 2, 0, 7, 9);
        is("15 nodes, none of the bin", x.move(1, 3), 4);
        is("15 parent", x.parentOf(1), 3);
        is("15 new directory", x.charge('d', 3, 0), 22);
        is("15 top", x.charge('d', 0, 0), 22);
        refused("15 itself", ARGUMENT, () -> x.move(1, 1));
        refused("15 below it", ARGUMENT, () -> x.move(3, 2));
        refused("15 its parent", ARGUMENT, () -> x.move(1, 3));
        refused("15 parent of a file", ARGUMENT, () -> x.move(4, 2));
        refused("15 top", ELEMENT, () -> x.move(0, 1));
        refused("15 no node", ELEMENT, () -> x.move(7, 1));
        refused("15 negative", ELEMENT, () -> x.move(-1, 1));
        refused("15 no directory", ELEMENT, () -> x.move(1, 9));
        refused("15 a file is no directory", ELEMENT, () -> x.move(1, 4));
        refused("15 a file is no directory, even itself", ELEMENT, () -> x.move(4, 4));
        refused("15 in the bin", ELEMENT, () -> x.move(6, 1));
        is("15 upwards", x.move(4, 1), 1);
        is("15 less there", x.charge('d', 2, 0), 7);
        is("15 the same above", x.charge('d', 1, 0), 22);
        x.addDirectory(0);
        x.setBound('d', 7, 0, 10, 21, 0);
        refusedFor(x, "15 hard", 'd', () -> x.move(1, 7));
        is("15 nothing is changed", x.parentOf(1), 3);
        x.setBound('d', 0, 0, 1, 1, 0);
        x.setBound('d', 3, 0, 1, 1, 0);
        is("15 above in both places", x.move(2, 3), 1);
        is("15 what fits", x.move(4, 7), 1);
        is("15 tenants' charges stay", x.charge('t', 0, 0), 17);
        is("15 an empty one fits always", x.move(x.addDirectory(3), 7), 1);
        is("15 sound", x.isSound(), true);
        pass(x, 5);
        refused("15 gone", ELEMENT, () -> x.move(6, 1));
    }

    private static void promise15Drift() {
        QuotaAlmshouse x = house();
        x.make(0, 2, 0, 10);
        x.lose('d', 2, 0, 9);
        x.lose('d', 3, 0, 5);
        x.setBound('d', 3, 0, 14, 14, 0);
        refusedFor(x, "15 the charge as it is kept", 'd', () -> x.move(2, 3));
        x.setBound('d', 3, 0, 15, 15, 0);
        is("15 what is moved is of its own size", x.move(2, 3), 2);
        is("15 what was lost stays", x.charge('d', 2, 0), 19);
        is("15 of each charge", x.charge('d', 3, 0), 15);
        is("15 wrong ones", x.audit(), 2);
    }

    private static void promise16Give() {
        QuotaAlmshouse x = house();
        x.make(0, 2, 1, 10);
        x.make(0, 1, 2, 5);
        x.make(0, 3, 1, 3);
        x.make(1, 2, 1, 1);
        x.make(0, 2, 1, 90);
        x.delete(8);
        is("16 files", x.give(0, 1, 1), 2);
        is("16 owner", x.ownerOf(4), 1);
        is("16 not below", x.ownerOf(6), 0);
        is("16 t of the giver", x.charge('t', 0, 0), 93);
        is("16 t of the other", x.charge('t', 1, 0), 16);
        is("16 k of the giver", x.charge('k', 0, 1), 93);
        is("16 k of the other", x.charge('k', 1, 1), 11);
        is("16 d", x.charge('d', 1, 0), 16);
        is("16 written stays", x.charge('w', 0, 0), 108);
        is("16 written by the other", x.charge('w', 1, 0), 1);
        is("16 none", x.give(0, 2, 1), 0);
        refused("16 tenant", INDEX, () -> x.give(2, 9, 2));
        refused("16 other", INDEX, () -> x.give(0, 9, 2));
        refused("16 directory", ELEMENT, () -> x.give(0, 9, 0));
        refused("16 file", ELEMENT, () -> x.give(0, 4, 1));
        refused("16 same", ARGUMENT, () -> x.give(0, 1, 0));
        x.setBound('k', 0, 2, 4, 4, 0);
        refusedFor(x, "16 k", 'k', () -> x.give(1, 0, 0));
        is("16 all or none", x.ownerOf(4), 1);
        x.setBound('t', 0, 0, 108, 108, 0);
        refusedFor(x, "16 t before k", 't', () -> x.give(1, 0, 0));
        x.setBound('k', 0, 2, 5, 5, 0);
        x.snapshot(0, 3);
        x.setBound('t', 0, 0, 109, 109, 0);
        x.setBound('w', 0, 0, 1, 1, 0);
        x.setBound('d', 1, 0, 1, 1, 0);
        is("16 d and w do not become greater", x.give(1, 0, 0), 3);
        x.merge(1, 0);
        refused("16 gone", INDEX, () -> x.give(0, 0, 1));
    }

    private static void promise16Held() {
        QuotaAlmshouse x = house();
        x.make(0, 2, 1, 10);
        x.snapshot(0, 0);
        x.snapshot(1, 0);
        x.setBound('t', 1, 0, 5, 10, 0);
        x.pass();
        is("16 what the other holds already", x.give(0, 0, 1), 1);
        is("16 giver goes on holding", x.charge('t', 0, 0), 10);
        is("16 once", x.charge('t', 1, 0), 10);
        is("16 k", x.charge('k', 0, 1), 0);
    }

    private static void promise17Delete() {
        QuotaAlmshouse x = house();
        x.make(0, 2, 1, 10);
        x.make(1, 2, 1, 5);
        x.setBound('d', 1, 0, 14, 20, 3);
        is("17 first", x.delete(4), 1);
        is("17 second", x.delete(5), 2);
        is("17 d", x.charge('d', 0, 0), 0);
        is("17 t", x.charge('t', 0, 0), 10);
        is("17 k", x.charge('k', 0, 1), 10);
        refused("17 grace ends", ELEMENT, () -> x.graceLeft('d', 1, 0));
        refused("17 twice", ELEMENT, () -> x.delete(4));
        refused("17 none", ELEMENT, () -> x.delete(6));
        refused("17 negative", ELEMENT, () -> x.delete(-1));
        refused("17 directory", ELEMENT, () -> x.delete(2));
        refused("17 top", ELEMENT, () -> x.delete(0));
        pass(x, 4);
        is("17 still held", x.charge('t', 0, 0), 10);
        x.pass();
        is("17 gone after 5 days, t", x.charge('t', 0, 0), 0);
        is("17 gone, k", x.charge('k', 0, 1), 0);
        refused("17 gone", ELEMENT, () -> x.delete(4));
        is("17 the bin is empty", x.delete(x.make(0, 0, 0, 1)), 1);
        pass(x, 1);
        is("17 deleted on another day", x.delete(x.make(0, 0, 0, 1)), 2);
        pass(x, 4);
        is("17 one of them is gone", x.charge('t', 0, 0), 1);
    }

    private static void promise18Restore() {
        QuotaAlmshouse x = house();
        x.make(0, 2, 1, 10);
        refused("18 not in the bin", ELEMENT, () -> x.restore(4));
        x.delete(4);
        x.move(2, 3);
        is("18 the directory, wherever it is now", x.restore(4), 2);
        is("18 d", x.charge('d', 3, 0), 10);
        x.delete(4);
        x.setBound('d', 3, 0, 9, 9, 0);
        x.setBound('t', 0, 0, 1, 1, 0);
        refusedFor(x, "18 bound", 'd', () -> x.restore(4));
        x.setBound('d', 3, 0, 10, 10, 0);
        is("18 only d becomes greater", x.restore(4), 2);
        refused("18 directory", ELEMENT, () -> x.restore(2));
        refused("18 none", ELEMENT, () -> x.restore(5));
        refused("18 negative", ELEMENT, () -> x.restore(-1));
        x.delete(4);
        pass(x, 4);
        is("18 on the last day", x.restore(4), 2);
        x.delete(4);
        pass(x, 5);
        refused("18 gone", ELEMENT, () -> x.restore(4));
    }

    private static void promise19Snapshot() {
        QuotaAlmshouse x = house();
        x.make(0, 2, 1, 10);
        x.make(1, 1, 1, 5);
        x.make(1, 3, 1, 2);
        x.make(0, 2, 1, 70);
        x.delete(7);
        is("19 first", x.snapshot(1, 1), 0);
        is("19 t", x.charge('t', 1, 0), 17);
        is("19 k", x.charge('k', 1, 1), 7);
        is("19 again", x.snapshot(1, 0), 1);
        is("19 charged once", x.charge('t', 1, 0), 17);
        x.write(4, 20);
        is("19 as they were then", x.charge('t', 1, 0), 17);
        x.setBound('t', 1, 0, 36, 36, 0);
        refusedFor(x, "19 bound", 't', () -> x.snapshot(1, 2));
        is("19 nothing new", x.snapshot(1, 3), 2);
        x.setBound('d', 0, 0, 1, 1, 0);
        x.setBound('k', 0, 1, 1, 1, 0);
        is("19 only t becomes greater", x.snapshot(0, 0), 3);
        is("19 t of the other", x.charge('t', 0, 0), 97);
        refused("19 tenant", INDEX, () -> x.snapshot(2, 9));
        refused("19 directory", ELEMENT, () -> x.snapshot(1, 9));
        refused("19 file", ELEMENT, () -> x.snapshot(1, 4));
        for (int i = 4; i < 10; i++) {
            is("19 numbers", x.snapshot(1, 3), i);
            x.dropSnapshot(i);
        }
        refused("19 bound before state", BOUND, () -> x.snapshot(1, 2));
        refused("19 there were 10", STATE, () -> x.snapshot(1, 3));
        x.merge(0, 1);
        refused("19 gone", INDEX, () -> x.snapshot(0, 0));
    }

    private static void promise20DropSnapshot() {
        QuotaAlmshouse x = house();
        x.make(0, 2, 1, 10);
        x.make(1, 2, 1, 5);
        x.snapshot(1, 0);
        x.snapshot(1, 2);
        is("20 held by another one", x.dropSnapshot(0), 0);
        is("20 t", x.charge('t', 1, 0), 15);
        x.setBound('t', 1, 0, 14, 20, 5);
        is("20 held by none", x.dropSnapshot(1), 10);
        is("20 t then", x.charge('t', 1, 0), 5);
        refused("20 grace ends", ELEMENT, () -> x.graceLeft('t', 1, 0));
        refused("20 twice", ELEMENT, () -> x.dropSnapshot(0));
        refused("20 none", ELEMENT, () -> x.dropSnapshot(2));
        refused("20 negative", ELEMENT, () -> x.dropSnapshot(-1));
        refused("20 far", ELEMENT, () -> x.dropSnapshot(32));
        x.snapshot(0, 0);
        x.delete(4);
        x.lose('t', 0, 0, 9);
        pass(x, 5);
        is("20 it keeps what is gone", x.charge('t', 0, 0), 24);
        x.merge(0, 1);
        is("20 of the one merged", x.dropSnapshot(2), 10);
        is("20 charge of the heir", x.charge('t', 1, 0), 5);
    }

    private static void promise21Merge() {
        QuotaAlmshouse x = house();
        x.make(0, 2, 1, 10);
        x.make(1, 2, 1, 5);
        x.make(0, 2, 2, 3);
        x.delete(6);
        x.snapshot(0, 0);
        x.reserve(0, 3, 1, 7, 4);
        x.lose('t', 0, 0, 50);
        x.lose('k', 0, 1, 50);
        x.lose('t', 1, 0, 2);
        x.lose('k', 1, 1, -2);
        x.setBound('t', 0, 0, 1, 1, 0);
        x.setBound('t', 1, 0, 6, 8, 4);
        x.setBound('w', 1, 0, 6, 8, 4);
        is("21 charge then", x.merge(0, 1), 27);
        is("21 k", x.charge('k', 1, 1), 20);
        is("21 another k", x.charge('k', 1, 2), 3);
        is("21 written", x.charge('w', 1, 0), 18);
        is("21 grace", x.graceLeft('t', 1, 0), 4);
        is("21 grace of w", x.graceLeft('w', 1, 0), 4);
        is("21 its bounds are gone", x.breaches(), 2);
        is("21 owner", x.ownerOf(4), 1);
        x.restore(6);
        is("21 owner in the bin", x.ownerOf(6), 1);
        is("21 only the heir's losses", x.audit(), 2);
        is("21 reservation", x.giveUp(0), 7);
        is("21 reserved", x.charge('t', 1, 0), 18);
        refused("21 gone", INDEX, () -> x.merge(0, 1));
        refused("21 into one gone", INDEX, () -> x.merge(1, 0));
        refused("21 none", INDEX, () -> x.merge(5, 5));
        refused("21 same", ARGUMENT, () -> x.merge(1, 1));
        is("21 number is not used again", x.addTenant(1, 1), 2);
    }

    private static void promise21Bounds() {
        QuotaAlmshouse x = house();
        x.make(0, 2, 1, 10);
        x.setBound('t', 0, 0, 1, 2, 3);
        x.setBound('k', 0, 1, 1, 2, 3);
        x.setBound('w', 0, 0, 1, 2, 3);
        is("21 breached", x.breaches(), 3);
        x.setBound('t', 1, 0, 1, 2, 3);
        x.setBound('k', 1, 1, 1, 2, 3);
        x.setBound('w', 1, 0, 10, 10, 3);
        is("21 nothing is refused for a bound", x.merge(0, 1), 10);
        is("21 the bounds of the other stay", x.breaches(), 2);
        is("21 no reason", x.reason(), '-');
        refused("21 w not greater than soft", ELEMENT, () -> x.graceLeft('w', 1, 0));
    }

    private static void promise21Requests() {
        QuotaAlmshouse x = new QuotaAlmshouse();
        x.addTenant(1, 0);
        x.addTenant(2, 0);
        for (int i = 0; i < 10; i++) {
            x.request(0, 60);
        }
        x.request(1, 31);
        x.request(1, 32);
        x.request(1, 33);
        x.round();
        is("21 credits before", x.credits(0), 10);
        is("21 merged", x.merge(1, 0), 0);
        is("21 credits", x.credits(0), 30);
        refused("21 row is full", STATE, () -> x.request(0, 1));
        for (int i = 0; i < 60; i++) {
            x.round();
        }
        is("21 requests behind the others", x.served(0), 600L);
        pass(x, 1);
        for (int i = 0; i < 6; i++) {
            x.round();
        }
        is("21 as many as there is room for", x.served(0), 663L);
        QuotaAlmshouse y = withTenants(2);
        y.request(0, 10);
        y.round();
        y.merge(0, 1);
        is("21 what was served is not merged", y.served(1), 0L);
        refused("21 nothing served by those not gone", ELEMENT, y::fairness);
    }

    private static void promise22SizeOf() {
        QuotaAlmshouse x = house();
        x.make(0, 2, 1, 10);
        is("22 size", x.sizeOf(4), 10);
        x.write(4, 11);
        is("22 written", x.sizeOf(4), 11);
        refused("22 directory", ELEMENT, () -> x.sizeOf(2));
        refused("22 none", ELEMENT, () -> x.sizeOf(5));
        refused("22 negative", ELEMENT, () -> x.sizeOf(-1));
        x.delete(4);
        refused("22 in the bin", ELEMENT, () -> x.sizeOf(4));
        pass(x, 5);
        refused("22 gone", ELEMENT, () -> x.sizeOf(4));
    }

    private static void promise23OwnerOf() {
        QuotaAlmshouse x = house();
        x.make(1, 2, 1, 10);
        is("23 owner", x.ownerOf(4), 1);
        x.give(1, 2, 0);
        is("23 given", x.ownerOf(4), 0);
        refused("23 directory", ELEMENT, () -> x.ownerOf(2));
        refused("23 none", ELEMENT, () -> x.ownerOf(5));
        refused("23 negative", ELEMENT, () -> x.ownerOf(-1));
        x.delete(4);
        refused("23 in the bin", ELEMENT, () -> x.ownerOf(4));
        pass(x, 5);
        refused("23 gone", ELEMENT, () -> x.ownerOf(4));
    }

    private static void promise24ParentOf() {
        QuotaAlmshouse x = house();
        x.make(1, 2, 1, 10);
        is("24 file", x.parentOf(4), 2);
        is("24 directory", x.parentOf(2), 1);
        is("24 below the top", x.parentOf(1), 0);
        refused("24 top", ELEMENT, () -> x.parentOf(0));
        refused("24 none", ELEMENT, () -> x.parentOf(5));
        refused("24 negative", ELEMENT, () -> x.parentOf(-1));
        x.delete(4);
        refused("24 in the bin", ELEMENT, () -> x.parentOf(4));
        pass(x, 5);
        refused("24 gone", ELEMENT, () -> x.parentOf(4));
    }

    private static void promise25Below() {
        QuotaAlmshouse x = house();
        x.make(1, 2, 1, 10);
        x.make(0, 1, 1, 10);
        x.make(0, 0, 1, 10);
        is("25 top", x.below(0), 3);
        is("25 any depth", x.below(1), 2);
        is("25 own", x.below(2), 1);
        is("25 none", x.below(3), 0);
        x.delete(4);
        is("25 not in the bin", x.below(1), 1);
        refused("25 file", ELEMENT, () -> x.below(5));
        refused("25 no node", ELEMENT, () -> x.below(7));
        refused("25 negative", ELEMENT, () -> x.below(-1));
    }

    private static void promise26Pass() {
        QuotaAlmshouse x = house();
        x.make(0, 2, 1, 9);
        x.make(0, 2, 1, 20);
        x.reserve(0, 2, 1, 5, 5);
        x.delete(5);
        pass(x, 4);
        x.write(4, 11);
        x.pack(4);
        x.setBound('t', 0, 0, 5, 99, 3);
        x.setBound('d', 1, 0, 15, 99, 3);
        is("26 day", x.pass(), 5);
        is("26 t", x.charge('t', 0, 0), 6);
        is("26 d", x.charge('d', 1, 0), 6);
        is("26 written", x.charge('w', 0, 0), 0);
        is("26 grace goes on", x.graceLeft('t', 0, 0), 2);
        refused("26 grace ends behind all", ELEMENT, () -> x.graceLeft('d', 1, 0));
        x.lose('d', 1, 0, 10);
        x.pass();
        is("26 grace begins with the new day", x.graceLeft('d', 1, 0), 3);
        pass(x, 193);
        is("26 the last day", x.pass(), 200);
        refused("26 day 200", STATE, x::pass);
        is("26 sound", x.audit(), 1);
    }

    private static void promise27Request() {
        QuotaAlmshouse x = withTenants(2);
        for (int i = 1; i <= 12; i++) {
            is("27 row", x.request(0, i == 1 ? 99 : 2), i);
        }
        refused("27 it has 12", STATE, () -> x.request(0, 1));
        refused("27 argument before state", ARGUMENT, () -> x.request(0, 0));
        is("27 of another one", x.request(1, 1), 1);
        refused("27 cost 0", ARGUMENT, () -> x.request(1, 0));
        refused("27 cost 100", ARGUMENT, () -> x.request(1, 100));
        refused("27 tenant", INDEX, () -> x.request(2, 0));
        refused("27 negative", INDEX, () -> x.request(-1, 1));
        for (int i = 0; i < 10; i++) {
            x.round();
        }
        is("27 room again", x.request(0, 5), 12);
        x.merge(1, 0);
        refused("27 gone", INDEX, () -> x.request(1, 1));
    }

    private static void promise28Round() {
        QuotaAlmshouse x = new QuotaAlmshouse();
        x.addTenant(2, 7);
        x.addTenant(3, 0);
        is("28 without requests", x.round(), 0);
        is("28 no credits without requests", x.credits(0), 0);
        x.request(0, 27);
        x.request(0, 21);
        x.request(1, 31);
        is("28 credits plus burst", x.round(), 1);
        is("28 owed", x.credits(0), -7);
        is("28 not enough", x.credits(1), 30);
        is("28 both", x.round(), 1);
        is("28 credits greater than 0 become 0", x.credits(1), 0);
        is("28 greater cost waits", x.credits(0), 13);
        is("28 next", x.round(), 1);
        is("28 nothing is left over", x.credits(0), 0);
        x.request(0, 27);
        x.round();
        is("28 owed again", x.credits(0), -7);
        x.round();
        is("28 increases by the weight", x.credits(0), -5);
        x.round();
        x.round();
        is("28 further", x.credits(0), -1);
        x.round();
        is("28 to 0 at most", x.credits(0), 0);
        x.request(0, 10);
        x.request(0, 11);
        x.request(0, 6);
        x.request(0, 1);
        is("28 several, in their order", x.round(), 3);
        is("28 costs", x.served(0), 102L);
        is("28 the last waits", x.credits(0), -7);
        is("28 none of one gone", x.merge(0, 1), 0);
        is("28 served for the heir", x.round(), 1);
    }

    private static void promise29Credits() {
        QuotaAlmshouse x = new QuotaAlmshouse();
        x.addTenant(9, 0);
        x.addTenant(1, 0);
        is("29 at first", x.credits(0), 0);
        x.request(0, 99);
        x.round();
        is("29 ten times the weight", x.credits(0), 90);
        is("29 of the other", x.credits(1), 0);
        refused("29 tenant", INDEX, () -> x.credits(2));
        refused("29 negative", INDEX, () -> x.credits(-1));
        x.merge(0, 1);
        is("29 merged", x.credits(1), 90);
        refused("29 gone", INDEX, () -> x.credits(0));
    }

    private static void promise30Served() {
        QuotaAlmshouse x = new QuotaAlmshouse();
        x.addTenant(9, 99);
        x.addTenant(1, 0);
        is("30 at first", x.served(0), 0L);
        x.request(0, 99);
        x.request(0, 50);
        is("30 not yet", x.served(0), 0L);
        x.round();
        is("30 sum", x.served(0), 149L);
        is("30 of the other", x.served(1), 0L);
        refused("30 tenant", INDEX, () -> x.served(2));
        refused("30 negative", INDEX, () -> x.served(-1));
        x.merge(1, 0);
        refused("30 gone", INDEX, () -> x.served(1));
    }

    private static void promise31Lose() {
        QuotaAlmshouse x = house();
        x.make(0, 2, 1, 10);
        is("31 t", x.lose('t', 0, 0, 99), 109);
        is("31 again", x.lose('t', 0, 0, -99), 10);
        is("31 less than 0", x.lose('d', 3, 7, -99), -99);
        is("31 k", x.lose('k', 0, 1, 0), 10);
        is("31 k changed", x.lose('k', 0, 1, 2), 12);
        x.setBound('k', 0, 1, 20, 20, 0);
        x.lose('k', 0, 1, 1);
        refusedFor(x, "31 fitting as it is kept", 'k', () -> x.make(0, 2, 1, 8));
        is("31 it fits", x.make(0, 2, 1, 7), 5);
        refused("31 w", ARGUMENT, () -> x.lose('w', 0, 0, 1));
        refused("31 which", ARGUMENT, () -> x.lose('z', 0, 0, 1));
        refused("31 kind", ARGUMENT, () -> x.lose('k', 0, 4, 1));
        refused("31 change 100", ARGUMENT, () -> x.lose('t', 0, 0, 100));
        refused("31 change -100", ARGUMENT, () -> x.lose('t', 9, 0, -100));
        refused("31 w before tenant", ARGUMENT, () -> x.lose('w', 9, 0, 1));
        refused("31 tenant", INDEX, () -> x.lose('t', 2, 0, 1));
        refused("31 directory", INDEX, () -> x.lose('d', 4, 0, 1));
        x.merge(1, 0);
        refused("31 gone", INDEX, () -> x.lose('k', 1, 0, 1));
    }

    private static void promise32Audit() {
        QuotaAlmshouse x = house();
        x.make(0, 2, 1, 10);
        is("32 none wrong", x.audit(), 0);
        x.lose('t', 0, 0, 5);
        x.lose('t', 0, 0, 5);
        x.lose('t', 1, 0, -1);
        x.lose('k', 0, 3, 1);
        x.lose('d', 2, 0, 1);
        x.lose('d', 0, 0, 1);
        x.lose('d', 0, 0, -1);
        x.setBound('t', 0, 0, 15, 99, 5);
        x.setBound('t', 1, 0, 0, 9, 5);
        x.setBound('d', 3, 0, 0, 9, 5);
        is("32 how many", x.audit(), 4);
        is("32 set right", x.charge('t', 0, 0), 10);
        is("32 of the other", x.charge('t', 1, 0), 0);
        refused("32 graces are looked at", ELEMENT, () -> x.graceLeft('t', 0, 0));
        is("32 written stays", x.charge('w', 0, 0), 10);
        is("32 again", x.audit(), 0);
        x.setBound('k', 0, 1, 5, 9, 5);
        x.lose('k', 0, 1, -10);
        x.make(0, 2, 0, 1);
        refused("32 grace ended", ELEMENT, () -> x.graceLeft('k', 0, 1));
        is("32 wrong", x.audit(), 1);
        is("32 grace begins", x.graceLeft('k', 0, 1), 5);
    }

    private static void promise33Breaches() {
        QuotaAlmshouse x = house();
        x.make(0, 2, 1, 10);
        is("33 no bounds", x.breaches(), 0);
        x.setBound('t', 0, 0, 9, 10, 2);
        x.setBound('d', 1, 0, 9, 9, 2);
        x.setBound('k', 0, 1, 10, 10, 0);
        x.setBound('w', 0, 0, 5, 9, 0);
        is("33 greater than hard", x.breaches(), 2);
        x.setBound('d', 2, 0, 9, 99, 0);
        is("33 soft, grace over", x.breaches(), 3);
        x.pass();
        is("33 w ended", x.breaches(), 2);
        x.pass();
        is("33 grace over", x.breaches(), 3);
        x.lose('k', 0, 1, 1);
        is("33 as it is kept", x.breaches(), 4);
        x.lose('t', 0, 0, -1);
        is("33 not greater than soft", x.breaches(), 3);
        x.setBound('d', 0, 0, 10, 99, 0);
        x.lose('d', 0, 0, 1);
        is("33 grace has not begun", x.breaches(), 3);
    }

    private static void promise34Fairness() {
        QuotaAlmshouse x = new QuotaAlmshouse();
        refused("34 no tenants", ELEMENT, x::fairness);
        x.addTenant(9, 99);
        x.addTenant(9, 99);
        refused("34 nothing served", ELEMENT, x::fairness);
        x.request(0, 30);
        x.round();
        is("34 least is 0", x.fairness(), 0f);
        x.request(1, 90);
        x.round();
        is("34 share", x.fairness(), 30f / 90f);
        x.addTenant(1, 1);
        is("34 a third one", x.fairness(), 0f);
        x.merge(2, 0);
        is("34 without the one gone", x.fairness(), 30f / 90f);
        x.merge(0, 1);
        is("34 alone", x.fairness(), 1f);
    }

    private static void promise35IsSound() {
        QuotaAlmshouse x = house();
        x.make(0, 2, 1, 10);
        is("35 sound", x.isSound(), true);
        for (char which : "tdk".toCharArray()) {
            x.lose(which, 1, 1, 1);
            is("35 lost of " + which, x.isSound(), false);
            is("35 not set right", x.isSound(), false);
            x.lose(which, 1, 1, -1);
            is("35 back", x.isSound(), true);
        }
        x.lose('t', 0, 0, 5);
        x.merge(0, 1);
        is("35 what was lost is gone", x.isSound(), true);
    }

    public static void main(String[] args) throws Exception {
        runAll(PromiseTests.class);
    }
}
