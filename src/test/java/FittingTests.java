import java.util.ArrayList;
import java.util.List;

/**
 * "Fitting" and "Order": for each act that can be refused, and for each charge that becomes greater by it, the
 * numbers and days that are just right and those just outside.
 */
public final class FittingTests extends Checks {
    private static final String ORDER = "tdkw";
    private static final int MOST = 9999;

    private record Charged(char which, int of, int kind) {
        int in(QuotaAlmshouse x) {
            return x.charge(which, of, kind);
        }

        void bind(QuotaAlmshouse x, int soft, int hard, int grace) {
            x.setBound(which, of, kind, soft, hard, grace);
        }

        int graceLeft(QuotaAlmshouse x) {
            return x.graceLeft(which, of, kind);
        }

        boolean isLost() {
            return which != 'w';
        }

        /** What is written is 0 on another day. */
        boolean staysOverDays() {
            return which != 'w';
        }
    }

    /** An act on a house in which each charge that becomes greater by it is greater than 0 before. */
    private record Case(String name, Act build, Act act) {
        QuotaAlmshouse house() {
            QuotaAlmshouse x = Checks.house();
            build.on(x);
            return x;
        }

        void forEachRaised(Test test) {
            QuotaAlmshouse before = house();
            QuotaAlmshouse after = house();
            act.on(after);
            for (Charged c : all()) {
                if (c.in(after) > c.in(before)) {
                    is(name + ": a test needs a charge before", c.in(before) > 0, true);
                    test.run(name + " " + c, this, c, c.in(before), c.in(after));
                }
            }
        }

        void refused(QuotaAlmshouse x, String what, char reason) {
            refusedFor(x, what, reason, () -> act.on(x));
        }

        void fits(QuotaAlmshouse x, String what) {
            Checks.fits(what, () -> act.on(x));
        }
    }

    private interface Test {
        void run(String what, Case c, Charged charged, int before, int after);
    }

    private static List<Charged> all() {
        List<Charged> all = new ArrayList<>();
        for (int tenant = 0; tenant < 2; tenant++) {
            all.add(new Charged('t', tenant, 0));
            all.add(new Charged('w', tenant, 0));
            for (int kind = 0; kind < 4; kind++) {
                all.add(new Charged('k', tenant, kind));
            }
        }
        for (int directory = 0; directory < 4; directory++) {
            all.add(new Charged('d', directory, 0));
        }
        return all;
    }

    private static final Case[] CASES = {
        new Case("make", x -> x.make(0, 2, 1, 10), x -> x.make(0, 2, 1, 7)),
        new Case("make in the top", x -> x.make(1, 3, 3, 1), x -> x.make(1, 0, 3, 999)),
        new Case("write", x -> x.make(0, 2, 1, 10), x -> x.write(4, 11)),
        new Case("write the same size", x -> x.make(0, 2, 1, 10), x -> x.write(4, 10)),
        new Case("write less", x -> x.make(0, 2, 1, 10), x -> x.write(4, 1)),
        new Case("write what the owner's snapshot has", x -> {
            x.make(0, 2, 1, 10);
            x.snapshot(0, 1);
        }, x -> x.write(4, 5)),
        new Case("write what another one's snapshot has", x -> {
            x.make(0, 2, 1, 10);
            x.snapshot(1, 1);
        }, x -> x.write(4, 12)),
        new Case("makeReserved, more than the room", x -> {
            x.make(0, 2, 1, 10);
            x.reserve(0, 2, 1, 10, 20);
        }, x -> x.makeReserved(0, 11)),
        new Case("makeReserved, as much as the room", x -> {
            x.make(0, 2, 1, 10);
            x.reserve(0, 2, 1, 10, 20);
        }, x -> x.makeReserved(0, 10)),
        new Case("makeReserved, less than the room", x -> {
            x.make(0, 2, 1, 10);
            x.reserve(0, 2, 1, 10, 20);
        }, x -> x.makeReserved(0, 1)),
        new Case("reserve", x -> x.make(0, 2, 1, 10), x -> x.reserve(0, 2, 1, 7, 20)),
        new Case("move a file", x -> {
            x.make(0, 2, 1, 10);
            x.make(0, 3, 1, 5);
        }, x -> x.move(4, 3)),
        new Case("move a directory", x -> {
            x.make(0, 2, 1, 10);
            x.make(1, 3, 1, 5);
            x.reserve(1, 2, 1, 3, 20);
        }, x -> x.move(1, 3)),
        new Case("move downwards", x -> {
            x.make(0, 2, 1, 10);
            x.make(1, 1, 1, 5);
        }, x -> x.move(5, 2)),
        new Case("move upwards", x -> x.make(0, 2, 1, 10), x -> x.move(4, 0)),
        new Case("move an empty one", x -> x.make(0, 1, 1, 10), x -> x.move(2, 3)),
        new Case("give", x -> {
            x.make(0, 2, 1, 10);
            x.make(0, 1, 2, 4);
            x.make(1, 3, 1, 5);
            x.make(1, 3, 2, 5);
        }, x -> x.give(0, 1, 1)),
        new Case("give what the other one's snapshot has", x -> {
            x.make(0, 2, 1, 10);
            x.make(1, 3, 1, 5);
            x.snapshot(1, 0);
        }, x -> x.give(0, 1, 1)),
        new Case("give several of a kind, some of which are held", x -> {
            x.make(0, 2, 1, 10);
            x.make(1, 3, 1, 5);
            x.make(1, 3, 0, 5);
            x.snapshot(1, 0);
            x.make(0, 2, 1, 20);
            x.make(0, 1, 0, 40);
            x.make(0, 0, 0, 80);
        }, x -> x.give(0, 0, 1)),
        new Case("give nothing", x -> x.make(0, 2, 1, 10), x -> x.give(0, 3, 1)),
        new Case("restore", x -> {
            x.make(0, 2, 1, 10);
            x.make(0, 2, 1, 5);
            x.delete(4);
        }, x -> x.restore(4)),
        new Case("snapshot", x -> {
            x.make(0, 2, 1, 10);
            x.make(1, 2, 1, 5);
        }, x -> x.snapshot(1, 0)),
        new Case("snapshot of what is held", x -> x.make(0, 2, 1, 10), x -> x.snapshot(0, 0)),
    };

    /** Which charges become greater by which act: each other test here goes over them. */
    private static void theChargesThatBecomeGreater() {
        String[] due = {"t0 w0 k01 d0 d1 d2", "t1 w1 k13 d0", "t0 w0 k01 d0 d1 d2", "w0", "w0", "t0 w0",
            "t0 w0 k01 d0 d1 d2", "t0 w0 k01 d0 d1 d2", "w0", "w0", "t0 k01 d0 d1 d2", "d3", "d3", "d2", "", "",
            "t1 k11 k12", "k11", "t1 k10 k11", "", "d1 d2 d0", "t1", ""};
        for (int i = 0; i < CASES.length; i++) {
            StringBuilder raised = new StringBuilder();
            CASES[i].forEachRaised((what, c, charged, before, after) -> raised.append(charged.which)
                    .append(charged.of).append(charged.which == 'k' ? "" + charged.kind : "").append(' '));
            is(CASES[i].name, sorted(raised.toString()), sorted(due[i]));
        }
    }

    private static List<String> sorted(String words) {
        List<String> list = new ArrayList<>(List.of(words.trim().split(" ")));
        list.sort(null);
        return list;
    }

    private static void forAll(Test test) {
        for (Case c : CASES) {
            c.forEachRaised(test);
        }
    }

    /** "One that becomes greater by an act breaks its bound if it would be greater than the hard number". */
    private static void atTheHardNumberItFits() {
        forAll((what, c, charged, before, after) -> {
            QuotaAlmshouse x = c.house();
            charged.bind(x, after, after, 0);
            c.fits(x, what);
            is(what, charged.in(x), after);
            is(what + ", no reason", x.reason(), '-');
        });
    }

    private static void oneAboveTheHardNumberItBreaks() {
        forAll((what, c, charged, before, after) -> {
            QuotaAlmshouse x = c.house();
            charged.bind(x, after - 1, after - 1, 99);
            c.refused(x, what, charged.which);
            is(what + ", unchanged", charged.in(x), before);
        });
    }

    private static void aChargeAtItsHardNumberMayNotBecomeGreater() {
        forAll((what, c, charged, before, after) -> {
            QuotaAlmshouse x = c.house();
            charged.bind(x, 0, before, 99);
            c.refused(x, what, charged.which);
        });
    }

    /** ".. or if it would be greater than the soft one, and its grace is over": it has not begun at the soft number. */
    private static void fromTheSoftNumberItFitsAndTheGraceBegins() {
        forAll((what, c, charged, before, after) -> {
            QuotaAlmshouse x = c.house();
            charged.bind(x, before, after, 0);
            refused(what + ", not begun", ELEMENT, () -> charged.graceLeft(x));
            c.fits(x, what);
            is(what + ", begun and over", charged.graceLeft(x), 0);
        });
    }

    private static void toTheSoftNumberItFitsAndNoGraceBegins() {
        forAll((what, c, charged, before, after) -> {
            QuotaAlmshouse x = c.house();
            charged.bind(x, after, MOST, 3);
            c.fits(x, what);
            refused(what + ", not begun", ELEMENT, () -> charged.graceLeft(x));
        });
    }

    private static void oneAboveTheSoftNumberTheGraceBegins() {
        forAll((what, c, charged, before, after) -> {
            QuotaAlmshouse x = c.house();
            charged.bind(x, after - 1, MOST, 3);
            c.fits(x, what);
            is(what, charged.graceLeft(x), 3);
        });
    }

    private static void withAGraceOfNoDaysItIsOverAtOnce() {
        forAll((what, c, charged, before, after) -> {
            QuotaAlmshouse x = c.house();
            charged.bind(x, before - 1, MOST, 0);
            is(what + ", begun with the bound", charged.graceLeft(x), 0);
            c.refused(x, what, charged.which);
        });
    }

    private static void withAGraceOfOneDayItFitsOnTheSameDay() {
        forAll((what, c, charged, before, after) -> {
            QuotaAlmshouse x = c.house();
            charged.bind(x, before - 1, MOST, 1);
            c.fits(x, what);
            is(what, charged.graceLeft(x), 1);
        });
    }

    /** "the present day is not less than the day on which it began plus the days of grace". */
    private static void onTheLastDayOfGraceItFits() {
        forAll((what, c, charged, before, after) -> {
            for (int grace = 1; grace <= 4 && charged.staysOverDays(); grace++) {
                QuotaAlmshouse x = c.house();
                charged.bind(x, before - 1, MOST, grace);
                pass(x, grace - 1);
                is(what + ", a day is left", charged.graceLeft(x), 1);
                c.fits(x, what);
            }
        });
    }

    private static void onTheDayWhenTheGraceIsOverItBreaks() {
        forAll((what, c, charged, before, after) -> {
            for (int grace = 1; grace <= 4 && charged.staysOverDays(); grace++) {
                QuotaAlmshouse x = c.house();
                charged.bind(x, before - 1, MOST, grace);
                pass(x, grace);
                is(what + ", none is left", charged.graceLeft(x), 0);
                c.refused(x, what, charged.which);
            }
        });
    }

    /** A loss ends no grace, so that a charge can be at its soft number while the grace is over. */
    private static void toTheSoftNumberItFitsThoughTheGraceIsOver() {
        forAll((what, c, charged, before, after) -> {
            if (charged.isLost() && after - before < 99) {
                QuotaAlmshouse x = c.house();
                charged.bind(x, before - 1, MOST, 0);
                x.lose(charged.which, charged.of, charged.kind, before - after - 1);
                c.fits(x, what);
                is(what, charged.in(x), before - 1);
            }
        });
    }

    private static void oneAboveTheSoftNumberItBreaksWithTheGraceOver() {
        forAll((what, c, charged, before, after) -> {
            if (charged.isLost() && after - before < 99) {
                QuotaAlmshouse x = c.house();
                charged.bind(x, before - 1, MOST, 0);
                x.lose(charged.which, charged.of, charged.kind, before - after);
                c.refused(x, what, charged.which);
            }
        });
    }

    /** "A charge is taken as it is kept". */
    private static void whatWasLostCountsAtTheHardNumber() {
        forAll((what, c, charged, before, after) -> {
            for (int change = -99; change <= 99 && charged.isLost(); change += 33) {
                QuotaAlmshouse x = c.house();
                charged.bind(x, Math.max(0, after + change), Math.max(0, after + change), 0);
                x.lose(charged.which, charged.of, charged.kind, change);
                c.fits(x, what + " " + change);
                QuotaAlmshouse y = c.house();
                int hard = Math.max(0, after + change - 1);
                charged.bind(y, hard, hard, 9);
                y.lose(charged.which, charged.of, charged.kind, change);
                if (after + change > 0) {
                    c.refused(y, what + " " + change, charged.which);
                }
            }
        });
    }

    /** "An act that lets no charge become greater breaks none": nor does one break the bounds of other charges. */
    private static void otherChargesMayBeAboveTheirNumbers() {
        for (Case c : CASES) {
            QuotaAlmshouse before = c.house();
            QuotaAlmshouse after = c.house();
            c.act.on(after);
            QuotaAlmshouse x = c.house();
            for (Charged charged : all()) {
                if (charged.in(after) <= charged.in(before)) {
                    charged.bind(x, 0, 0, 0);
                }
            }
            c.fits(x, c.name + ", others are above");
        }
    }

    private static void whatIsNeverRefusedForABound() {
        Act[] acts = {x -> x.giveUp(0), x -> x.delete(4), x -> x.dropSnapshot(0), x -> x.merge(0, 1),
            x -> x.merge(1, 0), x -> x.pass(), x -> x.pack(4), x -> x.audit(), x -> x.addDirectory(1),
            x -> x.addTenant(1, 0), x -> x.round(), x -> x.lose('t', 0, 0, 99)};
        for (int i = 0; i < acts.length; i++) {
            QuotaAlmshouse x = house();
            x.make(0, 2, 1, 10);
            x.make(1, 2, 1, 10);
            x.reserve(0, 2, 1, 5, 1);
            x.snapshot(1, 0);
            for (Charged charged : all()) {
                charged.bind(x, 0, 0, 0);
            }
            int number = i;
            fits("act " + number, () -> acts[number].on(x));
            is("act " + number + ", no reason", x.reason(), '-');
        }
    }

    /** "Where an act would break several bounds, the first one is told: 't', 'd', 'k', 'w'". */
    private static void theFirstBoundIsTold() {
        for (Case c : CASES) {
            List<Charged> raised = new ArrayList<>();
            c.forEachRaised((what, same, charged, before, after) -> raised.add(charged));
            for (int set = 1; set < 1 << raised.size(); set++) {
                checkFirst(c, raised, set, true);
                checkFirst(c, raised, set, false);
            }
        }
    }

    private static void checkFirst(Case c, List<Charged> raised, int set, boolean byHard) {
        QuotaAlmshouse after = c.house();
        c.act.on(after);
        QuotaAlmshouse x = c.house();
        int first = ORDER.length();
        for (int i = 0; i < raised.size(); i++) {
            Charged charged = raised.get(i);
            if ((set >> i & 1) != 0) {
                int kept = charged.in(x);
                boolean hard = byHard == (i % 2 == 0);
                charged.bind(x, hard ? kept : kept - 1, hard ? charged.in(after) - 1 : MOST, 0);
                first = Math.min(first, ORDER.indexOf(charged.which));
            }
        }
        c.refused(x, c.name + " with " + raised + ", set " + set, ORDER.charAt(first));
    }

    /** "without a bound, a charge may be anything". */
    private static void withoutABoundAChargeMayBeAnything() {
        QuotaAlmshouse x = house();
        for (int i = 0; i < 40; i++) {
            x.make(0, 2, 1, 999);
        }
        for (char which : ORDER.toCharArray()) {
            is("charge " + which, x.charge(which, 0, 1), 40 * 999);
            refused("no bound " + which, ELEMENT, () -> x.graceLeft(which, 0, 1));
        }
        is("nothing is breached", x.breaches(), 0);
        x.setBound('t', 0, 0, MOST, MOST, 0);
        is("greater than any bound", x.breaches(), 1);
        refusedFor(x, "and not to become greater", 't', () -> x.reserve(0, 0, 0, 1, 1));
        is("but less", x.write(4, 998), 999);
    }

    /** The greatest hard number, and one above it. */
    private static void theGreatestHardNumber() {
        for (char which : ORDER.toCharArray()) {
            QuotaAlmshouse x = house();
            x.setBound(which, 0, 1, MOST, MOST, 99);
            for (int i = 0; i < 10; i++) {
                x.make(0, 2, 1, 999);
            }
            refusedFor(x, "10000 " + which, which, () -> x.make(0, 2, 1, 10));
            is("9999 " + which, x.make(0, 2, 1, 9), 14);
            is("charge " + which, x.charge(which, 0, 1), MOST);
            refusedFor(x, "one more " + which, which, () -> x.make(0, 2, 1, 1));
        }
    }

    /** The least hard number: nothing at all. */
    private static void theLeastHardNumber() {
        for (char which : ORDER.toCharArray()) {
            QuotaAlmshouse x = house();
            x.setBound(which, 0, 1, 0, 0, 99);
            refusedFor(x, "1 " + which, which, () -> x.make(0, 2, 1, 1));
            is("another tenant, kind and place " + which, x.snapshot(0, 0), 0);
            is("0 is not greater " + which, x.breaches(), 0);
            refused("its grace has not begun " + which, ELEMENT, () -> x.graceLeft(which, 0, 1));
        }
    }

    /** A bound is for one charge: another tenant's, directory's or kind's is not asked. */
    private static void aBoundIsForOneCharge() {
        QuotaAlmshouse x = house();
        x.setBound('t', 1, 0, 0, 0, 0);
        x.setBound('w', 1, 0, 0, 0, 0);
        x.setBound('d', 3, 0, 0, 0, 0);
        for (int kind = 0; kind < 4; kind++) {
            x.setBound('k', 1, kind, 0, 0, 0);
            if (kind != 2) {
                x.setBound('k', 0, kind, 0, 0, 0);
            }
        }
        is("it fits", x.make(0, 2, 2, 5), 4);
        is("no reason", x.reason(), '-');
        for (int kind = 0; kind < 4; kind++) {
            int other = kind;
            if (kind != 2) {
                refusedFor(x, "kind " + kind, 'k', () -> x.make(0, 2, other, 5));
            }
        }
        refusedFor(x, "tenant", 't', () -> x.make(1, 2, 2, 5));
        refusedFor(x, "directory", 'd', () -> x.make(0, 3, 2, 5));
    }

    /** "reason": the last act that was refused for a bound, behind whatever was done since then. */
    private static void theReasonIsOfTheLastRefusal() {
        QuotaAlmshouse x = house();
        x.make(0, 2, 1, 10);
        x.setBound('w', 1, 0, 0, 0, 0);
        x.setBound('k', 0, 1, 10, 10, 0);
        x.setBound('d', 3, 0, 0, 0, 0);
        is("none", x.reason(), '-');
        refusedFor(x, "w", 'w', () -> x.make(1, 2, 1, 1));
        refusedFor(x, "k", 'k', () -> x.write(4, 11));
        refusedFor(x, "d", 'd', () -> x.move(4, 3));
        refusedFor(x, "w again", 'w', () -> x.make(1, 2, 1, 1));
        x.write(4, 9);
        x.pass();
        x.setBound('w', 1, 0, 9, 9, 0);
        refused("refused for something else", ELEMENT, () -> x.write(5, 9));
        is("it stays", x.reason(), 'w');
    }

    public static void main(String[] args) throws Exception {
        runAll(FittingTests.class);
    }
}
