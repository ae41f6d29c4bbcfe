import java.util.Arrays;

/** The sentences of the fifty promises, each with a test of its own: edges, wrong arguments, and which refusal comes first. */
public final class PromiseEdgesTest extends Sentences {
    /** Far off from all that any promise takes. */
    private static final int[] WILD = {LOW, LOW + 1, -1000000000, 1000000000, HIGH - 1, HIGH};

    public static void main(String[] args) {
        aNewObject();
        theLine();
        bestAndHaul();
        works();
        orders();
        gangs();
        days();
        tape();
        texts();
        rules();
        measures();
        claims();
        purse();
        faces();
        arches();
        whatWaits();
        surveys();
        notes();
        copies();
        rows();
        images();
        counts();
        end();
    }

    private static int[] with(int[] some, int... more) {
        int[] both = Arrays.copyOf(some, some.length + more.length);
        System.arraycopy(more, 0, both, some.length, more.length);
        return both;
    }

    /** What is beside a range, and far off. */
    private static int[] outside(int low, int high) {
        return with(WILD, low - 1, high + 1);
    }

    private static LineMaking withWorks(int many) {
        LineMaking x = new LineMaking();
        for (int i = 0; i < many; i++) x.work(0, 0, 10);
        return x;
    }

    private static void aNewObject() {
        in("Promise 1");
        says("As told; no WORKS.", () -> {
            LineMaking x = new LineMaking();
            int[] counts = {8, 0, 0, 0, 0, 0, 0, 0, 0, 0, 0, 0, 0, 0, 0};
            for (int i = 0; i < 15; i++) is(x.count(i), counts[i]);
            int[] chain = {50, 50, NONE, 0, 0, 0};
            for (int c = 0; c < 8; c++) for (int what = 0; what < 6; what++) is(x.at(c, what), chain[what]);
            int[] rules = {2, 2, 3, 9, 5, 999};
            for (int i = 0; i < 6; i++) is(x.rule(i, 0), rules[i]);
            for (int s = 0; s < 4; s++) is(x.read(s, 0), NOTHING);
            for (int key = 0; key < 4; key++) is(x.why(key), NONE);
            for (int day = 0; day < 2000; day += 1999) is(x.wet(day, 0), 0);
            is(x.told(0, 0), BAD);
            is(x.back(), NO);
            is(x.foretold(), 0);
            is(x.quarrels(), 0);
            is(x.steep(), 0);
            is(x.haul(), 0);
            is(x.best(-1), 0);
            // One object knows nothing of another one.
            is(new LineMaking().count(14), 0);
            x.run(5);
            is(new LineMaking().count(14), 0);
        });
    }

    private static void theLine() {
        in("Promise 2");
        says("COUNT becomes n (all CHAINS as at first): what it was.", () -> {
            LineMaking x = new LineMaking();
            is(x.chains(2), 8);
            is(x.chains(24), 2);
            is(x.chains(24), 24);
            x.set(23, 0, 1);
            x.set(23, 1, 1);
            x.set(23, 2, 1);
            x.bore(23);
            is(x.chains(24), 24);
            is(x.at(23, 0), 50);
            is(x.at(23, 1), 50);
            is(x.at(23, 2), NONE);
            is(x.bore(23), 0);
            // What a chain had is gone, though it was not there meanwhile; rules are no chain's.
            x.set(23, 0, 1);
            x.rule(0, 7);
            x.chains(23);
            x.chains(24);
            is(x.at(23, 0), 50);
            is(x.at(23, 2), NONE);
            is(x.rule(0, 7), 7);
        });
        says("BAD; NO: there are WORKS.", () -> {
            LineMaking x = new LineMaking();
            for (int n : with(outside(2, 24), 0, -2)) is(x.chains(n), BAD);
            x.work(0, 0, 1);
            for (int n : outside(2, 24)) is(x.chains(n), BAD);
            is(x.chains(2), NO);
            is(x.chains(8), NO);
            is(x.chains(24), NO);
            is(x.count(0), 8);
        });
        in("Promise 3");
        says("Of a CHAIN what = 0 GROUND, 1 LEVEL (0 .. 99), 2 the true STRATUM (0 .. 3) becomes v: what it was.", () -> {
            LineMaking x = new LineMaking();
            int[] highest = {99, 99, 3};
            int[] first = {50, 50, 0};
            for (int what = 0; what < 3; what++) {
                is(x.set(0, what, highest[what]), first[what]);
                is(x.set(0, what, 0), highest[what]);
                is(x.set(0, what, 1), 0);
                is(x.set(7, what, 1), first[what]);
            }
        });
        says("BAD.", () -> {
            LineMaking x = new LineMaking();
            for (int chain : outside(0, 7)) is(x.set(chain, 0, 1), BAD);
            for (int what : outside(0, 2)) is(x.set(0, what, 1), BAD);
            for (int v : outside(0, 99)) {
                is(x.set(0, 0, v), BAD);
                is(x.set(0, 1, v), BAD);
            }
            for (int v : outside(0, 3)) is(x.set(0, 2, v), BAD);
            is(x.at(0, 0), 50);
            is(x.at(0, 1), 50);
            is(x.bore(0), 0);
        });
        in("Promise 4");
        says("A CHAIN is BORED: its STRATUM.", () -> {
            LineMaking x = line(24);
            x.set(23, 2, 3);
            is(x.bore(23), 3);
            is(x.bore(23), 3);
            is(x.bore(0), 0);
            is(x.at(22, 2), NONE);
        });
        says("BAD.", () -> {
            for (int chain : outside(0, 7)) is(new LineMaking().bore(chain), BAD);
            is(line(2).bore(2), BAD);
            is(line(24).bore(24), BAD);
            is(line(24).bore(32), BAD);
        });
        in("Promise 5");
        says("2 STRATUM, the true one as it is now, if BORED (NONE: not),", () -> {
            LineMaking x = new LineMaking();
            x.set(1, 2, 2);
            is(x.at(1, 2), NONE);
            x.bore(1);
            is(x.at(1, 2), 2);
            x.set(1, 2, 3);
            is(x.at(1, 2), 3);
            is(x.at(0, 2), NONE);
        });
        says("4 how many WORKS there, 5 whether it has a SLIP (1, 0).", () -> {
            LineMaking x = new LineMaking();
            x.set(7, 2, 3);
            deep(x, 7, 13);
            is(x.at(7, 4), 0);
            manned(x, 1, 7, 99, 99);
            is(x.at(7, 4), 1);
            is(x.at(6, 4), 0);
            x.wet(0, 7);
            is(x.at(7, 5), 0);
            x.run(1);
            is(x.at(7, 5), 1);
            is(x.at(7, 4), 2);
            is(x.at(6, 5), 0);
            for (int i = 2; i < 24; i++) x.work(0, 7, 1);
            is(x.at(7, 4), 24);
        });
        says("BAD.", () -> {
            LineMaking x = new LineMaking();
            for (int chain : outside(0, 7)) for (int what = 0; what < 6; what++) is(x.at(chain, what), BAD);
            for (int what : outside(0, 5)) is(x.at(0, what), BAD);
        });
        in("Promise 6");
        says("What = 0 SLOPE (0 .. 9), 1 CUTS (0 .. 9), 2 FILLS (0 .. 9), 3 BORROWED (0 .. 99), 4 SPOILT (0 .. 99), 5 THE TERM becomes v: what it was.", () -> {
            LineMaking x = new LineMaking();
            int[] highest = {9, 9, 9, 99, 99, 1999};
            int[] first = {2, 2, 3, 9, 5, 999};
            for (int what = 0; what < 6; what++) {
                is(x.rule(what, highest[what]), first[what]);
                is(x.rule(what, 0), highest[what]);
                is(x.rule(what, 0), 0);
            }
        });
        says("BAD.", () -> {
            LineMaking x = new LineMaking();
            int[] highest = {9, 9, 9, 99, 99, 1999};
            int[] first = {2, 2, 3, 9, 5, 999};
            for (int what = 0; what < 6; what++) {
                for (int v : outside(0, highest[what])) is(x.rule(what, v), BAD);
                is(x.rule(what, 1), first[what]);
            }
            for (int what : outside(0, 5)) is(x.rule(what, 1), BAD);
        });
    }

    private static void bestAndHaul() {
        in("Promise 7");
        says("How many twos of CHAINS beside one another make the line STEEP.", () -> {
            LineMaking x = line(24);
            is(x.steep(), 0);
            for (int i = 0; i < 24; i++) x.set(i, 1, i % 2 * 3);
            is(x.steep(), 23);
            x.rule(0, 3);
            is(x.steep(), 0);
            LineMaking y = line(24);
            y.set(23, 1, 53);
            is(y.steep(), 1);
            y.set(0, 1, 0);
            is(y.steep(), 2);
            // The last chain is not beside the first one, and one that there is not is beside none.
            LineMaking z = line(2);
            z.set(1, 1, 52);
            is(z.steep(), 0);
        });
        in("Promise 8");
        says("THE BEST LEVELS: COST (chain -1), or the LEVEL of a CHAIN.", () -> {
            LineMaking x = line(2);
            x.set(0, 0, 0);
            x.set(1, 0, 99);
            is(x.best(-1), 194);
            is(x.best(0), 0);
            is(x.best(1), 2);
            // Asked, not laid.
            is(x.at(0, 1), 50);
            is(x.at(1, 1), 50);
            // Levels that stand do not matter.
            x.set(1, 1, 99);
            is(x.best(-1), 194);
        });
        says("BAD.", () -> {
            for (int chain : with(WILD, -2, 8)) is(new LineMaking().best(chain), BAD);
            is(line(24).best(24), BAD);
            is(line(2).best(2), BAD);
        });
        in("Promise 9");
        says("LEVELS become THE BEST LEVELS: COST.", () -> {
            LineMaking x = line(2);
            x.set(0, 0, 0);
            x.set(1, 0, 99);
            is(x.lay(), 194);
            is(x.at(0, 1), 0);
            is(x.at(1, 1), 2);
            is(x.at(0, 0), 0);
            is(x.at(1, 0), 99);
            is(x.lay(), 194);
            LineMaking y = line(24);
            for (int i = 0; i < 24; i++) y.set(i, 0, 99);
            is(y.lay(), 0);
            for (int i = 0; i < 24; i++) is(y.at(i, 1), 99);
        });
        in("Promise 10");
        says("THE HAUL.", () -> {
            LineMaking x = line(2);
            is(x.haul(), 0);
            deep(x, 0, 7);
            deep(x, 1, -9);
            is(x.haul(), 7 + 18);
            is(x.haul(), 25);
            // Beyond the count nothing is there or wanted.
            LineMaking y = line(24);
            deep(y, 23, 9);
            y.chains(2);
            is(y.haul(), 0);
        });
    }

    private static void works() {
        in("Promise 11");
        says("One more WORK of KIND 0 .. 4, 6: its number.", () -> {
            LineMaking x = new LineMaking();
            int[] kinds = {0, 1, 2, 3, 4, 6};
            for (int i = 0; i < 6; i++) {
                is(x.work(kinds[i], 7 - i, i == 0 ? 9999 : i), i);
                int[] first = {kinds[i], 7 - i, i == 0 ? 9999 : i, 0, NONE, 0, 1};
                for (int what = 0; what < 7; what++) is(x.told(i, what), first[what]);
                for (int what = 9; what < 13; what++) is(x.told(i, what), 0);
            }
        });
        says("BAD; FULL.", () -> {
            LineMaking x = new LineMaking();
            for (int turn = 0; turn < 2; turn++) {
                for (int kind : with(outside(0, 6), 5)) is(x.work(kind, 0, 1), BAD);
                for (int chain : outside(0, 7)) is(x.work(0, chain, 1), BAD);
                for (int yards : outside(1, 9999)) is(x.work(0, 0, yards), BAD);
                is(x.count(1), 24 * turn);
                for (int i = 0; i < 24 && turn == 0; i++) x.work(0, 0, 1);
                is(x.work(0, 0, 1), FULL);
            }
            is(x.count(1), 24);
        });
        in("Promise 12");
        says("4 its GANG (NONE),", () -> {
            LineMaking x = withWorks(24);
            for (int i = 0; i < 8; i++) x.gang(1);
            x.goes(7, 23);
            x.goes(0, 0);
            is(x.told(23, 4), 7);
            is(x.told(0, 4), 0);
            is(x.told(1, 4), NONE);
            x.goes(7, 1);
            is(x.told(23, 4), NONE);
            is(x.told(1, 4), 7);
        });
        says("7 RATE on the open DAY,", () -> {
            LineMaking x = new LineMaking();
            x.work(4, 0, 1);
            x.wet(1999, 8);
            x.wet(1, 9);
            is(x.told(0, 7), 1);
            x.run(1);
            is(x.told(0, 7), 0);
            x.run(1);
            is(x.told(0, 7), 1);
            until(x, 1999);
            is(x.told(0, 7), 0);
        });
        says("9 yards of the one HAND, 10 of the other, 11 JOINED, 12 PAID.", () -> {
            LineMaking x = new LineMaking();
            manned(x, 0, 0, 10, 99);
            measured(x, 0, 4, 9999);
            x.run(28);
            int[] due = {4, 9999, 4, 4};
            for (int i = 0; i < 4; i++) is(x.told(0, 9 + i), due[i]);
        });
        says("BAD.", () -> {
            LineMaking x = withWorks(1);
            for (int work : outside(0, 0)) for (int what = 0; what < 13; what++) is(x.told(work, what), BAD);
            for (int what : outside(0, 12)) is(x.told(0, what), BAD);
            is(withWorks(24).told(24, 0), BAD);
        });
        in("Promise 13");
        says("A WORK as one of a KIND: YARDS.", () -> {
            LineMaking x = new LineMaking();
            x.work(3, 0, 9999);
            x.work(0, 0, 1);
            is(x.as(0, 0), 9999);
            is(x.as(0, 1), 9999);
            is(x.as(0, 3), 9999);
            is(x.as(1, 0), 1);
        });
        says("BAD: work, kind; KIND: it is not of that KIND, nor of one under it.", () -> {
            LineMaking x = new LineMaking();
            is(x.as(0, 0), BAD);
            x.work(0, 0, 1);
            x.work(1, 0, 1);
            for (int work : outside(0, 1)) is(x.as(work, 0), BAD);
            for (int kind : outside(0, 6)) is(x.as(0, kind), BAD);
            for (int kind = 1; kind < 7; kind++) is(x.as(0, kind), KIND);
            // A cut is no tunnel and no slip, though these are cuts.
            for (int kind = 2; kind < 7; kind++) is(x.as(1, kind), KIND);
        });
    }

    private static void orders() {
        in("Promise 14");
        says("AHEAD of a WORK becomes a set (bits 0 .. 16777215, there or not): what it was.", () -> {
            LineMaking x = withWorks(1);
            is(x.ahead(0, 16777215), 0);
            is(x.told(0, 5), 16777215);
            is(x.ahead(0, 8388608), 16777215);
            is(x.ahead(0, 0), 8388608);
            is(x.told(0, 5), 0);
        });
        says("BAD.", () -> {
            LineMaking x = withWorks(1);
            x.ahead(0, 5);
            for (int set : outside(0, 16777215)) is(x.ahead(0, set), BAD);
            for (int work : outside(0, 0)) is(x.ahead(work, 0), BAD);
            is(x.told(0, 5), 5);
        });
        in("Promise 15");
        says("DAYS of a WORK (1 .. 99) become v: what they were.", () -> {
            LineMaking x = withWorks(24);
            is(x.days(23, 99), 1);
            is(x.days(23, 1), 99);
            is(x.days(0, 2), 1);
            is(x.told(0, 6), 2);
            is(x.told(23, 6), 1);
        });
        says("BAD.", () -> {
            LineMaking x = withWorks(1);
            for (int v : outside(1, 99)) is(x.days(0, v), BAD);
            for (int work : outside(0, 0)) is(x.days(work, 1), BAD);
            is(x.told(0, 6), 1);
        });
    }

    private static void gangs() {
        in("Promise 16");
        says("One more GANG: its number.", () -> {
            LineMaking x = withWorks(2);
            is(x.gang(99), 0);
            is(x.gang(1), 1);
            is(x.goes(0, 0), NONE);
            x.run(1);
            is(x.told(0, 3), 10);
        });
        says("BAD; FULL.", () -> {
            LineMaking x = new LineMaking();
            for (int hands : outside(1, 99)) is(x.gang(hands), BAD);
            for (int i = 0; i < 8; i++) is(x.gang(1 + i * 14), i);
            is(x.gang(1), FULL);
            for (int hands : outside(1, 99)) is(x.gang(hands), BAD);
            is(x.count(4), 8);
        });
        in("Promise 17");
        says("A GANG goes to a WORK (NONE: to none): where it was (NONE).", () -> {
            LineMaking x = withWorks(24);
            x.gang(1);
            is(x.goes(0, NONE), NONE);
            is(x.goes(0, 23), NONE);
            is(x.goes(0, 23), 23);
            is(x.goes(0, 0), 23);
            is(x.goes(0, NONE), 0);
            is(x.goes(0, NONE), NONE);
        });
        says("BAD; NO: another one is there.", () -> {
            LineMaking x = withWorks(2);
            for (int gang : outside(0, -1)) is(x.goes(gang, 0), BAD);
            x.gang(1);
            x.gang(1);
            x.goes(1, 1);
            for (int gang : outside(0, 1)) {
                is(x.goes(gang, 1), BAD);
                is(x.goes(gang, NONE), BAD);
            }
            for (int work : with(outside(0, 1), BAD, NONE - 1, NONE + 1)) is(x.goes(1, work), BAD);
            is(x.goes(0, 1), NO);
            is(x.goes(1, 1), 1);
            is(x.goes(0, NONE), NONE);
        });
    }

    private static void days() {
        in("Promise 18");
        says("WET of a DAY (0 .. 1999) becomes v: what it was.", () -> {
            LineMaking x = new LineMaking();
            for (int day : new int[] {0, 1, 31, 32, 1998, 1999}) {
                is(x.wet(day, 9), 0);
                is(x.wet(day, 0), 9);
                is(x.wet(day, 4), 0);
            }
            // Of a day that went by, too.
            x.run(9);
            is(x.wet(0, 1), 4);
        });
        says("BAD.", () -> {
            LineMaking x = new LineMaking();
            for (int day : outside(0, 1999)) is(x.wet(day, 1), BAD);
            for (int v : outside(0, 9)) is(x.wet(0, v), BAD);
            is(x.wet(0, 0), 0);
        });
        in("Promise 19");
        says("n (1 .. 60) DAYS go by: the DAY.", () -> {
            LineMaking x = new LineMaking();
            is(x.run(1), 1);
            is(x.run(60), 61);
            is(x.count(14), 61);
        });
        says("BAD; FULL: it would be above 1999.", () -> {
            LineMaking x = new LineMaking();
            for (int n : with(outside(1, 60), -60)) is(x.run(n), BAD);
            until(x, 1940);
            is(x.run(60), FULL);
            is(x.count(14), 1940);
            is(x.run(59), 1999);
            is(x.run(1), FULL);
            for (int n : outside(1, 60)) is(x.run(n), BAD);
            is(x.count(14), 1999);
            LineMaking y = new LineMaking();
            until(y, 1939);
            is(y.run(60), 1999);
        });
        in("Promise 20");
        says("FORETOLD, as bits.", () -> {
            LineMaking x = line(24);
            is(x.foretold(), 0);
            for (int chain = 0; chain < 24; chain++) {
                x.set(chain, 2, 2);
                deep(x, chain, 9);
                x.bore(chain);
                x.work(1, chain, 1);
            }
            is(x.foretold(), 16777215);
            deep(x, 0, 8);
            deep(x, 23, 8);
            is(x.foretold(), 8388606);
            // Not cut into yet, and dry: foretold all the same; in rock nothing is.
            x.set(1, 2, 0);
            deep(x, 1, 99);
            is(x.foretold(), 8388604);
        });
    }

    private static void tape() {
        in("Promise 21");
        says("Twelve bytes come to THE TAPE, the highest of each number first: how many it has.", () -> {
            LineMaking x = new LineMaking();
            is(x.feed(0x6c617465, 0x20283132, 0x33342d6e), 12);
            is(x.feed(0x29202020, 0x20202020, 0x20202020), 24);
            is(x.text(0), 0);
            is(x.rules(2, 34, 0, 0), 1200);
            // A byte above 127 is one sign: the fault is where it stands.
            x.feed(0x6c617465, 0x20ff2020, 0x20202020);
            is(x.text(0), -105);
            x.feed(0x6c617465, 0x206e8020, LOW);
            is(x.text(0), -106);
            is(x.feed(LOW, HIGH, -1), 12);
        });
        says("FULL: it would have more than 96.", () -> {
            LineMaking x = new LineMaking();
            for (int i = 1; i <= 8; i++) is(x.feed(0x20202020, 0x20202020, 0x20202020), 12 * i);
            is(x.feed(0, 0, 0), FULL);
            is(x.trim(85), 85);
            is(x.feed(0, 0, 0), FULL);
            is(x.count(13), 85);
            is(x.trim(84), 84);
            is(x.feed(0x6c617465, 0x20202020, 0x20202039), 96);
            is(x.text(0), 0);
            is(x.rules(2, 0, 0, 0), 9);
        });
        in("Promise 22");
        says("THE TAPE keeps its first n bytes: n.", () -> {
            LineMaking x = new LineMaking();
            is(x.trim(0), 0);
            x.feed(0x6c617465, 0x20313233, 0x34353637);
            is(x.trim(12), 12);
            is(x.trim(9), 9);
            is(x.text(0), 0);
            is(x.rules(2, 0, 0, 0), 1234);
            x.feed(0, 0, 0);
            is(x.trim(0), 0);
            is(x.count(13), 0);
        });
        says("BAD (below 0; it has not so many).", () -> {
            LineMaking x = new LineMaking();
            for (int n : outside(0, 0)) is(x.trim(n), BAD);
            x.feed(0, 0, 0);
            for (int n : outside(0, 12)) is(x.trim(n), BAD);
            x.trim(5);
            is(x.trim(6), BAD);
            is(x.count(13), 5);
        });
    }

    private static void texts() {
        in("Promise 23");
        says("THE TAPE is a TEXT from a DAY (0 .. 1999) on: its number.", () -> {
            LineMaking x = new LineMaking();
            is(text(x, "late 1", 0), 0);
            is(text(x, "late 2", 1999), 1);
            is(x.of(0, 1), 0);
            is(x.of(1, 1), 1999);
            is(x.rules(2, 0, 0, 0), 1);
            until(x, 1999);
            is(x.rules(2, 0, 0, 0), 2);
            // From a day that went by on: at once.
            is(text(x, "retain 3", 0), 2);
            is(x.why(1), 2);
        });
        says("BAD (asked first; THE TAPE is used up, too); -100 less the place of its FAULT; FULL.", () -> {
            LineMaking x = new LineMaking();
            for (int turn = 0; turn < 2; turn++) {
                for (int day : outside(0, 1999)) {
                    is(text(x, "late 1", day), BAD);
                    is(x.count(13), 0);
                    is(text(x, "late", day), BAD);
                }
                is(text(x, "late 1 1", 0), -107);
                is(x.count(13), 0);
                is(x.text(0), -100);
                is(text(x, " ".repeat(95) + "?", 0), -195);
                is(text(x, " ".repeat(96), 0), -196);
                is(x.count(5), 14 * turn);
                for (int i = 0; i < 14 && turn == 0; i++) text(x, "late 1", 0);
                is(text(x, "late 1", 0), FULL);
                is(x.count(13), 0);
            }
            is(x.why(2), 13);
            // A fault within brackets and nots leaves nothing open for the next text.
            LineMaking y = new LineMaking();
            String[] broken = {"late 1+((((((((!!!!!!!!", "late 1|2&(3<4*!", "late (((((((((", "late !!!!!!!!!", "late 7 7"};
            for (int i = 0; i < broken.length; i++) {
                is(text(y, broken[i], 0) < -100 ? 1 : 0, 1);
                is(text(y, "late n)", 0), -106);
                is(text(y, broken[i], 0) < -100 ? 1 : 0, 1);
                is(text(y, "late ((((((((!!!!!!!!n))))))))*5+n", 0), 2 * i);
                is(y.rules(2, 3, 0, 0), 8);
                is(text(y, broken[i], 0) < -100 ? 1 : 0, 1);
                is(text(y, "late 9", 0), 2 * i + 1);
                is(y.rules(2, 0, 0, 0), 9);
                is(y.of(2 * i + 1, 2), 1);
            }
        });
        in("Promise 24");
        says("Of a TEXT: what 0 KEY (0 .. 3, as told), 1 the DAY, 2 how many NUMBERS and NAMES it has.", () -> {
            LineMaking x = new LineMaking();
            text(x, "late 9999", 0);
            text(x, "late n", 0);
            text(x, "late !(n+n*10-((7)))", 0);
            text(x, "late " + "n+".repeat(45) + "n", 0);
            int[] due = {1, 1, 4, 46};
            for (int i = 0; i < 4; i++) is(x.of(i, 2), due[i]);
            String[] keys = {"price", "retain", "late", "claim"};
            for (int key = 0; key < 4; key++) {
                is(text(x, keys[key] + " 1", key == 0 ? 1999 : 0), 4 + key);
                is(x.of(4 + key, 0), key);
                is(x.of(4 + key, 1), key == 0 ? 1999 : 0);
            }
        });
        says("BAD.", () -> {
            LineMaking x = new LineMaking();
            for (int text : outside(0, -1)) is(x.of(text, 0), BAD);
            text(x, "late 1", 0);
            for (int text : outside(0, 0)) for (int what = 0; what < 3; what++) is(x.of(text, what), BAD);
            for (int what : outside(0, 2)) is(x.of(0, what), BAD);
        });
        in("Promise 25");
        says("WHY: the TEXT that counts for a KEY now.", () -> {
            LineMaking x = new LineMaking();
            text(x, "claim 1", 0);
            text(x, "claim 1", 1);
            is(x.why(3), 0);
            x.run(1);
            is(x.why(3), 1);
        });
        says("BAD; NONE.", () -> {
            LineMaking x = new LineMaking();
            for (int key : outside(0, 3)) is(x.why(key), BAD);
            text(x, "claim 1", 1);
            for (int key = 0; key < 4; key++) is(x.why(key), NONE);
        });
    }

    private static void rules() {
        in("Promise 26");
        says("THE RULE of a KEY now, for told numbers in the order in which its NAMES stand above (others do not matter; claim: not held).", () -> {
            LineMaking x = new LineMaking();
            text(x, "price k*100+d*10+w", 0);
            text(x, "retain k*10+y", 0);
            text(x, "late n", 0);
            text(x, "claim c*10+w", 0);
            is(x.rules(0, 1, 2, 3), 123);
            for (int other : new int[] {0, LOW, HIGH}) {
                is(x.rules(1, 1, 2, other), 12);
                is(x.rules(2, 7, other, other), 7);
                is(x.rules(3, 1, 2, other), 12);
            }
            is(x.rules(3, -1, 0, 0), -10);
            is(x.rules(3, 100000000, 0, 0), 1000000000);
            is(x.rules(3, HIGH, 0, 0), -10);
        });
        says("BAD.", () -> {
            LineMaking x = new LineMaking();
            for (int key : outside(0, 3)) is(x.rules(key, 1, 1, 1), BAD);
        });
        in("Promise 27");
        says("PRICE of a yard of a WORK now.", () -> {
            LineMaking x = new LineMaking();
            x.work(3, 0, 1);
            is(x.price(0), 40);
            text(x, "price 9999", 0);
            is(x.price(0), 999);
            text(x, "price 0-w", 0);
            is(x.price(0), 0);
            text(x, "price w/7", 1);
            is(x.price(0), 0);
            x.run(1);
            is(x.price(0), 5);
        });
        says("BAD.", () -> {
            LineMaking x = withWorks(1);
            for (int work : outside(0, 0)) is(x.price(work), BAD);
            is(withWorks(24).price(24), BAD);
        });
    }

    private static void measures() {
        in("Promise 28");
        says("A HAND (0, 1) MEASURES a WORK: yards (0 .. 9999) become v: what they were.", () -> {
            LineMaking x = withWorks(24);
            for (int hand = 0; hand < 2; hand++) {
                is(x.measure(23, hand, 9999), 0);
                is(x.measure(23, hand, 0), 9999);
                is(x.measure(23, hand, 7 + hand), 0);
            }
            is(x.told(23, 9), 7);
            is(x.told(23, 10), 8);
            is(x.told(22, 9), 0);
        });
        says("BAD.", () -> {
            LineMaking x = withWorks(1);
            for (int work : outside(0, 0)) is(x.measure(work, 0, 1), BAD);
            for (int hand : outside(0, 1)) is(x.measure(0, hand, 1), BAD);
            for (int v : outside(0, 9999)) is(x.measure(0, 0, v), BAD);
            is(x.told(0, 9), 0);
            is(x.told(0, 10), 0);
        });
        in("Promise 29");
        says("How many WORKS QUARREL.", () -> {
            LineMaking x = withWorks(24);
            is(new LineMaking().quarrels(), 0);
            is(x.quarrels(), 0);
            for (int i = 0; i < 24; i++) {
                x.measure(i, i % 2, 1);
                is(x.quarrels(), i + 1);
            }
            for (int i = 0; i < 24; i++) x.measure(i, 1 - i % 2, 1);
            is(x.quarrels(), 0);
        });
    }

    private static void claims() {
        in("Promise 30");
        says("One more CLAIM (DAYS 0 .. 1999, the second not ahead of the first): its number.", () -> {
            LineMaking x = new LineMaking();
            text(x, "claim 1", 0);
            is(x.claim(0, 0, 0), 0);
            is(x.claim(1999, 1999, 3), 1);
            is(x.claim(0, 1999, 1), 2);
            is(x.given(0), 1);
            is(x.given(1), 1);
            is(x.given(2), 1998);
        });
        says("BAD; FULL.", () -> {
            LineMaking x = new LineMaking();
            for (int turn = 0; turn < 2; turn++) {
                for (int day : outside(0, 1999)) {
                    is(x.claim(day, 1999, 0), BAD);
                    is(x.claim(0, day, 0), BAD);
                    is(x.claim(day, day, 0), BAD);
                }
                is(x.claim(6, 5, 0), BAD);
                is(x.claim(1999, 0, 0), BAD);
                for (int cause : outside(0, 3)) is(x.claim(0, 0, cause), BAD);
                is(x.count(6), 20 * turn);
                for (int i = 0; i < 20 && turn == 0; i++) is(x.claim(5, 5, 0), i);
                is(x.claim(0, 0, 0), FULL);
            }
        });
        in("Promise 31");
        says("GIVEN of a CLAIM: how many DAYS.", () -> {
            LineMaking x = new LineMaking();
            for (int i = 0; i < 20; i++) x.claim(i, i + 1, 0);
            for (int day = 0; day <= 20; day++) x.wet(day, 5);
            is(x.given(0), 2);
            for (int i = 1; i < 20; i++) is(x.given(i), 1);
            x.wet(20, 4);
            is(x.given(19), 0);
            // Asked twice it is the same, and so is the other order.
            is(x.given(0), 2);
            LineMaking y = new LineMaking();
            text(y, "claim 1", 0);
            for (int i = 0; i < 20; i++) y.claim(0, 1999, i % 4);
            is(y.given(0), 2000);
            is(y.given(19), 0);
        });
        says("BAD.", () -> {
            LineMaking x = new LineMaking();
            for (int claim : outside(0, -1)) is(x.given(claim), BAD);
            x.claim(0, 0, 0);
            for (int claim : outside(0, 0)) is(x.given(claim), BAD);
        });
        in("Promise 32");
        says("What LATE costs, if it is opened on a DAY (0 .. 9999).", () -> {
            LineMaking x = new LineMaking();
            is(x.late(0), 0);
            is(x.late(9999), 90000);
            x.rule(5, 0);
            is(x.late(9999), 99990);
            text(x, "late n*n", 0);
            is(x.late(316), 99856);
            is(x.late(317), 99999);
            text(x, "claim 1", 0);
            for (int i = 0; i < 20; i++) x.claim(0, 1999, 0);
            is(x.late(2001), 1);
            is(x.late(2000), 0);
        });
        says("BAD.", () -> {
            for (int day : outside(0, 9999)) is(new LineMaking().late(day), BAD);
        });
    }

    private static void purse() {
        in("Promise 33");
        says("Coins come to THE PURSE (1 .. 99999): what it has.", () -> {
            LineMaking x = new LineMaking();
            is(x.call(1), 1);
            is(x.call(99999), 100000);
            is(x.count(10), 100000);
            LineMaking y = new LineMaking();
            y.due(0, -5);
            y.run(1);
            is(y.call(3), -2);
        });
        says("BAD.", () -> {
            LineMaking x = new LineMaking();
            for (int coins : outside(1, 99999)) is(x.call(coins), BAD);
            is(x.count(10), 0);
        });
        in("Promise 34");
        says("One more DUE (a DAY from the open one on, 1999 at most): its number.", () -> {
            LineMaking x = new LineMaking();
            is(x.due(0, 0), 0);
            is(x.due(1999, 1), 1);
            x.run(9);
            is(x.due(8, 1), BAD);
            is(x.due(9, 1), 2);
            until(x, 1999);
            is(x.due(1998, 1), BAD);
            is(x.due(1999, 1), 3);
        });
        says("BAD; FULL.", () -> {
            LineMaking x = new LineMaking();
            for (int turn = 0; turn < 2; turn++) {
                for (int day : outside(0, 1999)) is(x.due(day, 1), BAD);
                for (int coins : outside(-99999, 99999)) is(x.due(0, coins), BAD);
                is(x.count(7), 20 * turn);
                for (int i = 0; i < 20 && turn == 0; i++) is(x.due(5, 1), i);
                is(x.due(5, 1), FULL);
            }
            // Those of days that went by count, too.
            x.run(6);
            is(x.due(6, 1), FULL);
            is(x.count(10), 20);
        });
        in("Promise 35");
        says("RUNS OUT. NONE.", () -> {
            LineMaking x = new LineMaking();
            is(x.out(), NONE);
            x.due(399, -1);
            is(x.out(), 399);
            x.call(1);
            is(x.out(), NONE);
            for (int i = 1; i < 20; i++) x.due(i, -99999);
            is(x.out(), 1);
            is(x.count(10), 1);
        });
    }

    private static void faces() {
        in("Promise 36");
        says("One more FACE (from a DAY 0 .. 1999 on): its number.", () -> {
            LineMaking x = new LineMaking();
            is(x.face(1999, 99), 0);
            is(x.meets(99), 1999);
            is(x.face(0, 1), 1);
            is(x.meets(1), 0);
            is(x.meets(1999), 1998);
            is(x.meets(2000), 1999);
        });
        says("BAD; FULL.", () -> {
            LineMaking x = new LineMaking();
            for (int turn = 0; turn < 2; turn++) {
                for (int day : outside(0, 1999)) is(x.face(day, 1), BAD);
                for (int yards : outside(1, 99)) is(x.face(0, yards), BAD);
                is(x.count(8), 6 * turn);
                for (int i = 0; i < 6 && turn == 0; i++) is(x.face(0, 1), i);
                is(x.face(0, 1), FULL);
            }
            is(x.meets(6), 0);
            is(x.meets(7), 1);
        });
        in("Promise 37");
        says("MEETS. BAD; NONE.", () -> {
            LineMaking x = new LineMaking();
            for (int turn = 0; turn < 2; turn++) {
                for (int length : outside(1, 9999)) is(x.meets(length), BAD);
                is(x.meets(1), turn == 0 ? NONE : 0);
                is(x.meets(9999), turn == 0 ? NONE : 9998);
                x.face(0, 1);
            }
        });
    }

    private static void arches() {
        in("Promise 38");
        says("One more ARCH: its number.", () -> {
            LineMaking x = new LineMaking();
            is(x.arch(1), 0);
            is(x.arch(9), 1);
            is(x.order(8, 0), 0);
            is(x.order(7, 0), NONE);
        });
        says("BAD; FULL.", () -> {
            LineMaking x = new LineMaking();
            for (int turn = 0; turn < 2; turn++) {
                for (int thrust : outside(1, 9)) is(x.arch(thrust), BAD);
                is(x.count(9), 8 * turn);
                for (int i = 0; i < 8 && turn == 0; i++) is(x.arch(1), i);
                is(x.arch(1), FULL);
            }
        });
        in("Promise 39");
        says("The i-th ARCH of THE ORDER for p (0 .. 9; i from 0 on).", () -> {
            LineMaking x = new LineMaking();
            for (int i = 0; i < 8; i++) x.arch(9);
            for (int i = 0; i < 8; i++) is(x.order(9, i), i);
            LineMaking y = new LineMaking();
            y.arch(9);
            is(y.order(0, 0), 0);
            // Asked for one p, then for another one.
            y.arch(4);
            is(y.order(9, 0), 0);
            is(y.order(5, 0), 1);
            is(y.order(9, 0), 0);
        });
        says("BAD; NONE: there is no order, or not so many.", () -> {
            LineMaking x = new LineMaking();
            for (int turn = 0; turn < 2; turn++) {
                for (int p : outside(0, 9)) is(x.order(p, 0), BAD);
                for (int i : new int[] {-1, LOW}) is(x.order(0, i), BAD);
                is(x.order(0, 0), NONE);
                is(x.order(0, HIGH), NONE);
                x.arch(3);
                x.arch(4);
            }
            is(x.order(9, 3), 3);
            is(x.order(9, 4), NONE);
            for (int i = 4; i < 8; i++) x.arch(1);
            is(x.order(9, 7), 7);
            is(x.order(9, 8), NONE);
            is(x.order(0, 7), NONE);
        });
    }

    private static void whatWaits() {
        in("Promise 40");
        says("THROUGH of a WORK.", () -> {
            LineMaking x = withWorks(24);
            is(x.through(0), 1);
            for (int i = 1; i < 24; i++) x.ahead(i, (1 << i) - 1);
            for (int i = 0; i < 24; i++) is(x.through(i), i + 1);
            // Days as told: what is done does not matter.
            manned(x, 0, 0, 1, 99);
            x.run(5);
            is(x.through(23), 24);
        });
        says("BAD; NONE.", () -> {
            for (int work : outside(0, -1)) is(new LineMaking().through(work), BAD);
            LineMaking x = withWorks(24);
            for (int work : outside(0, 23)) is(x.through(work), BAD);
            x.ahead(23, 1 << 23);
            is(x.through(23), NONE);
            is(x.through(22), 1);
        });
        in("Promise 41");
        says("The i-th WORK of THE CHAIN of a WORK (0: itself).", () -> {
            LineMaking x = withWorks(24);
            is(x.chain(23, 0), 23);
            for (int i = 1; i < 24; i++) x.ahead(i, (1 << i) - 1);
            for (int i = 0; i < 24; i++) is(x.chain(23, i), 23 - i);
        });
        says("BAD: work, i below 0; NONE: there are not so many, or it is not THROUGH ever.", () -> {
            is(new LineMaking().chain(0, 0), BAD);
            LineMaking x = withWorks(24);
            for (int work : outside(0, 23)) is(x.chain(work, 0), BAD);
            for (int i : new int[] {-1, LOW}) is(x.chain(0, i), BAD);
            for (int i : new int[] {1, 23, 24, HIGH}) is(x.chain(0, i), NONE);
            x.ahead(0, 1);
            is(x.chain(0, 0), NONE);
            is(x.chain(0, -1), BAD);
            x.ahead(1, 1);
            is(x.chain(1, 0), NONE);
            x.ahead(0, 0);
            is(x.chain(1, 1), 0);
            is(x.chain(1, 2), NONE);
            for (int i = 1; i < 24; i++) x.ahead(i, 1 << i - 1);
            is(x.chain(23, 23), 0);
            is(x.chain(23, 24), NONE);
        });
    }

    private static void surveys() {
        in("Promise 42");
        says("A SURVEY becomes a row of n places of a sort, all 0 (sort -1: MISSING, n any): n (0).", () -> {
            LineMaking x = new LineMaking();
            is(x.survey(3, 1, 24), 24);
            for (int i = 0; i < 24; i++) is(x.read(3, i), 0);
            for (int i = 0; i < 24; i++) x.note(3, i, 5);
            is(x.survey(3, 0, 24), 24);
            for (int i = 0; i < 24; i++) is(x.read(3, i), 0);
            x.note(3, 0, NONE);
            x.note(3, 1, 3);
            is(x.survey(3, 0, 2), 2);
            is(x.read(3, 0), 0);
            is(x.read(3, 1), 0);
            is(x.read(3, 2), INDEX);
            is(x.survey(3, 0, 0), 0);
            is(x.read(3, 0), INDEX);
            for (int n : with(WILD, -1, 0, 24, 25)) {
                x.survey(3, 0, 1);
                is(x.survey(3, -1, n), 0);
                is(x.read(3, 0), NOTHING);
            }
            is(x.survey(3, -1, 0), 0);
        });
        says("BAD: survey, sort, n above 24; SIZE.", () -> {
            LineMaking x = new LineMaking();
            x.survey(0, 1, 1);
            x.note(0, 0, 7);
            for (int survey : outside(0, 3)) {
                is(x.survey(survey, 0, 1), BAD);
                is(x.survey(survey, 0, -1), BAD);
                is(x.survey(survey, -1, 0), BAD);
            }
            for (int sort : outside(-1, 1)) {
                is(x.survey(0, sort, 1), BAD);
                is(x.survey(0, sort, -1), BAD);
            }
            for (int sort = 0; sort < 2; sort++) {
                for (int n : new int[] {25, HIGH}) is(x.survey(0, sort, n), BAD);
                for (int n : new int[] {-1, -25, LOW}) is(x.survey(0, sort, n), SIZE);
            }
            is(x.read(0, 0), 7);
            is(x.read(0, 1), INDEX);
        });
    }

    private static void notes() {
        in("Promise 43");
        says("A place of a SURVEY becomes v (of shorts its lowest 16 bits, told with their sign; of floats v halves, -100000 .. 100000; NONE: NO NUMBER): 1.", () -> {
            LineMaking x = new LineMaking();
            x.survey(0, 1, 24);
            int[][] shorts = {{32767, 32767}, {32768, -32768}, {-32768, -32768}, {-32769, 32767}, {65535, -1}, {65536, 0}, {-65536, 0}, {-65537, -1},
                {LOW, 0}, {HIGH, -1}, {BAD, 13823}, {100001, -31071}, {NONE + 1, 13820}};
            for (int i = 0; i < shorts.length; i++) {
                is(x.note(0, i, shorts[i][0]), 1);
                is(x.read(0, i), shorts[i][1]);
            }
            is(x.note(0, 23, 1), 1);
            is(x.read(0, 23), 1);
            x.survey(1, 0, 2);
            is(x.note(1, 1, 100000), 1);
            is(x.note(1, 0, -100000), 1);
            is(x.read(1, 0), -100000);
            is(x.read(1, 1), 100000);
            is(x.note(1, 0, NONE), 1);
            is(x.read(1, 0), 100000);
            is(x.note(1, 0, 32769), 1);
            is(x.read(1, 0), 32769);
        });
        says("BAD: survey; NOTHING; INDEX; KIND: NONE in a row of shorts; BAD: v of floats.", () -> {
            LineMaking x = new LineMaking();
            for (int survey : outside(0, 3)) is(x.note(survey, 0, 0), BAD);
            is(x.note(0, -1, 100001), NOTHING);
            x.survey(0, 0, 2);
            x.survey(1, 1, 2);
            for (int place : outside(0, 1)) {
                is(x.note(0, place, 100001), INDEX);
                is(x.note(1, place, NONE), INDEX);
            }
            is(x.note(1, 1, NONE), KIND);
            for (int v : with(outside(-100000, 100000), NONE - 1, NONE + 1, BAD)) is(x.note(0, 1, v), BAD);
            is(x.read(0, 1), 0);
            is(x.read(1, 1), 0);
            x.survey(2, 0, 0);
            is(x.note(2, 0, 0), INDEX);
        });
        in("Promise 44");
        says("What a place of a SURVEY is read as (of floats in halves).", () -> {
            LineMaking x = new LineMaking();
            x.survey(0, 0, 24);
            for (int i = 1; i < 23; i++) x.note(0, i, NONE);
            x.note(0, 0, 23);
            for (int i = 0; i < 24; i++) is(x.read(0, i), 23 - i);
            x.note(0, 23, -23);
            for (int i = 0; i < 24; i++) is(x.read(0, i), 23 - 2 * i);
            // Reading fills no gap.
            x.note(0, 0, NONE);
            is(x.read(0, 11), -23);
            x.note(0, 23, NONE);
            is(x.read(0, 11), KIND);
        });
        says("BAD: survey; NOTHING; INDEX; KIND: NO NUMBER, and no other is one.", () -> {
            LineMaking x = new LineMaking();
            for (int survey : outside(0, 3)) is(x.read(survey, 0), BAD);
            for (int place : with(WILD, -1, 0)) is(x.read(0, place), NOTHING);
            x.survey(0, 0, 1);
            for (int place : outside(0, 0)) is(x.read(0, place), INDEX);
            x.note(0, 0, NONE);
            for (int place : outside(0, 0)) is(x.read(0, place), INDEX);
            is(x.read(0, 0), KIND);
            x.survey(0, 0, 24);
            for (int i = 0; i < 24; i++) x.note(0, i, NONE);
            for (int i = 0; i < 24; i++) is(x.read(0, i), KIND);
            x.note(0, 23, 0);
            for (int i = 0; i < 24; i++) is(x.read(0, i), 0);
        });
    }

    /** Shorts 1, 2, 3 .. in the survey. */
    private static void number(LineMaking x, int survey, int places) {
        x.survey(survey, 1, places);
        for (int i = 0; i < places; i++) x.note(survey, i, i + 1);
    }

    private static void reads(LineMaking x, int survey, int... due) {
        for (int i = 0; i < due.length; i++) is(x.read(survey, i), due[i]);
        is(x.read(survey, due.length), INDEX);
    }

    private static void copies() {
        in("Promise 45");
        says("So many places of a SURVEY come to another one (or the same), as they were: many.", () -> {
            LineMaking x = new LineMaking();
            number(x, 0, 4);
            is(x.copy(0, 0, 0, 1, 3), 3);
            reads(x, 0, 1, 1, 2, 3);
            number(x, 0, 4);
            is(x.copy(0, 1, 0, 0, 3), 3);
            reads(x, 0, 2, 3, 4, 4);
            is(x.copy(0, 0, 0, 0, 4), 4);
            reads(x, 0, 2, 3, 4, 4);
            x.survey(3, 1, 24);
            is(x.copy(0, 0, 3, 20, 4), 4);
            is(x.read(3, 19), 0);
            is(x.read(3, 20), 2);
            is(x.read(3, 23), 4);
            is(x.copy(3, 0, 3, 0, 24), 24);
            // Gaps come as gaps, whatever they are read as.
            LineMaking y = new LineMaking();
            y.survey(0, 0, 3);
            y.survey(1, 0, 3);
            y.note(0, 0, 10);
            y.note(0, 1, NONE);
            y.note(0, 2, 20);
            y.note(1, 0, 100);
            is(y.read(0, 1), 15);
            is(y.copy(0, 1, 1, 1, 1), 1);
            is(y.read(1, 1), 50);
        });
        says("BAD; NOTHING; KIND: they are not of one sort; INDEX (many below 0, too; many 0: not at the place behind the last one).", () -> {
            LineMaking x = new LineMaking();
            for (int survey : outside(0, 3)) {
                is(x.copy(survey, -1, 0, -1, -1), BAD);
                is(x.copy(0, -1, survey, -1, -1), BAD);
            }
            number(x, 0, 3);
            x.survey(1, 0, 3);
            is(x.copy(0, -1, 2, -1, -1), NOTHING);
            is(x.copy(2, -1, 0, -1, -1), NOTHING);
            is(x.copy(2, -1, 2, -1, -1), NOTHING);
            is(x.copy(0, -1, 1, -1, -1), KIND);
            is(x.copy(1, 0, 0, 0, 0), KIND);
            number(x, 2, 2);
            for (int many : new int[] {-1, LOW}) is(x.copy(0, 0, 2, 0, many), INDEX);
            for (int many : new int[] {3, 4, HIGH}) is(x.copy(0, 0, 2, 0, many), INDEX);
            for (int place : outside(0, 3)) is(x.copy(0, place, 2, 0, 0), INDEX);
            for (int place : outside(0, 2)) is(x.copy(0, 0, 2, place, 0), INDEX);
            is(x.copy(0, 3, 2, 2, 0), 0);
            is(x.copy(0, 3, 2, 0, 1), INDEX);
            is(x.copy(0, 0, 2, 2, 1), INDEX);
            is(x.copy(0, 2, 2, 1, 2), INDEX);
            is(x.copy(0, HIGH, 2, 0, HIGH), INDEX);
            is(x.copy(0, 1, 2, 0, HIGH), INDEX);
            is(x.copy(0, 0, 2, 1, HIGH), INDEX);
            reads(x, 0, 1, 2, 3);
            reads(x, 2, 1, 2);
            is(x.copy(0, 1, 2, 0, 2), 2);
            reads(x, 2, 2, 3);
            x.survey(3, 1, 0);
            is(x.copy(3, 0, 3, 0, 0), 0);
            is(x.copy(3, 0, 0, 3, 0), 0);
            is(x.copy(3, 0, 0, 0, 1), INDEX);
            is(x.copy(0, 0, 3, 0, 1), INDEX);
            is(x.copy(3, 1, 0, 0, 0), INDEX);
        });
    }

    private static void rows() {
        in("Promise 46");
        says("One more number waits: how many.", () -> {
            LineMaking x = new LineMaking();
            is(x.tell(LOW), 1);
            is(x.tell(HIGH), 2);
            is(x.count(12), 2);
            x.keep();
            is(x.check(1), 1);
            is(x.tell(0), 1);
        });
        says("FULL: 60 wait.", () -> {
            LineMaking x = new LineMaking();
            x.keep();
            for (int i = 1; i <= 60; i++) is(x.tell(0), i);
            is(x.tell(0), FULL);
            is(x.tell(BAD), FULL);
            is(x.count(12), 60);
            is(x.check(30), 0);
            is(x.tell(0), 1);
        });
        in("Promise 47");
        says("The numbers that wait (none do then, whatever is answered) are THE DAYS TOLD of n DAYS (1 .. 30; behind 1999, too), two by two: 0;", () -> {
            LineMaking x = new LineMaking();
            manned(x, 0, 0, 9999, 5);
            x.keep();
            for (int n : new int[] {1, 2, 30}) {
                for (int day = 1; day <= n; day++) {
                    x.tell(day);
                    x.tell(0);
                }
                is(x.check(n), 0);
                is(x.count(12), 0);
                is(x.check(n), 1);
            }
            LineMaking y = new LineMaking();
            y.due(1999, 9);
            manned(y, 0, 0, 9999, 5);
            until(y, 1999);
            y.keep();
            for (int day = 0; day < 30; day++) {
                y.tell(2000 + day);
                y.tell(9);
            }
            is(y.check(30), 0);
            is(y.count(14), 1999);
            // Paid by the texts of the image.
            LineMaking z = new LineMaking();
            text(z, "price 7", 0);
            text(z, "retain 50", 0);
            manned(z, 0, 0, 10, 99);
            measured(z, 0, 10, 10);
            z.run(27);
            z.keep();
            text(z, "price 8", 0);
            text(z, "retain 0", 0);
            z.tell(10);
            z.tell(-35);
            is(z.check(1), 0);
            // None wait behind a call that is refused, either.
            for (int n : new int[] {0, 31}) {
                y.tell(1);
                is(y.check(n), BAD);
                is(y.count(12), 0);
            }
        });
        says("else 1 and how many stand right ahead of the first that is not (or is missing, or one too many).", () -> {
            LineMaking x = new LineMaking();
            manned(x, 0, 0, 9999, 5);
            x.keep();
            int[] due = {1, 0, 2, 0, 3, 0};
            for (int told = 0; told <= 8; told++) {
                for (int i = 0; i < told; i++) x.tell(i < 6 ? due[i] : 0);
                is(x.check(3), told == 6 ? 0 : Math.min(told, 6) + 1);
            }
            for (int flaw = 0; flaw < 6; flaw++) {
                for (int i = 0; i < 6; i++) x.tell(due[i] + (i == flaw ? 1 : 0));
                is(x.check(3), flaw + 1);
            }
            for (int i = 0; i < 60; i++) x.tell(i % 2 == 0 ? i / 2 + 1 : i == 59 ? 7 : 0);
            is(x.check(30), 60);
            for (int i = 0; i < 59; i++) x.tell(i % 2 == 0 ? i / 2 + 1 : 0);
            is(x.check(30), 60);
            for (int i = 0; i < 60; i++) x.tell(i % 2 == 0 ? i / 2 + 1 : 0);
            is(x.check(29), 59);
        });
        says("BAD; NO: there is no IMAGE.", () -> {
            LineMaking x = new LineMaking();
            for (int n : outside(1, 30)) {
                x.tell(0);
                is(x.check(n), BAD);
                is(x.count(12), 0);
            }
            x.tell(0);
            is(x.check(1), NO);
            is(x.count(12), 0);
            is(x.check(30), NO);
            x.keep();
            for (int n : outside(1, 30)) is(x.check(n), BAD);
        });
    }

    private static void images() {
        in("Promise 48");
        says("AN IMAGE is kept: the DAY.", () -> {
            LineMaking x = new LineMaking();
            is(x.keep(), 0);
            until(x, 1999);
            is(x.keep(), 1999);
            is(x.keep(), 1999);
            is(x.back(), 1999);
        });
        in("Promise 49");
        says("All is as THE IMAGE: the DAY.", () -> {
            for (Script begun : new Script[] {new Script(), Script.some(), Script.full(), Script.lastDay()}) {
                Script kept = new Script().add(begun).add("trim", 0).add("keep");
                int day = kept.on(new LineMaking());
                Script stirred = new Script().add(kept).add(stir());
                is(Look.at(stirred).equals(Look.at(kept)) ? 1 : 0, 0);
                Script again = new Script().add(stirred).add("back");
                is(again.on(new LineMaking()), day);
                is(Look.at(again).equals(Look.at(kept)) ? 1 : 0, 1);
                Script thrice = new Script().add(again).add("call", 9).add("run", 1).add("back").add("back");
                is(Look.at(thrice).equals(Look.at(kept)) ? 1 : 0, 1);
            }
            // From an image of nothing all that there was is gone.
            LineMaking y = new LineMaking();
            y.keep();
            stir().on(y);
            y.back();
            is(y.work(0, 0, 1), 0);
            int[] anew = {0, 0, 1, 0, NONE, 0, 1, 2, 5, 0, 0, 0, 0};
            for (int what = 0; what < 13; what++) is(y.told(0, what), anew[what]);
            is(y.gang(1), 0);
            is(y.goes(0, NONE), NONE);
            is(text(y, "late 1", 0), 0);
            is(y.claim(0, 0, 0), 0);
            is(y.due(0, 0), 0);
            is(y.face(0, 1), 0);
            is(y.arch(1), 0);
            // Texts of an image count in it, later ones do not.
            LineMaking z = new LineMaking();
            text(z, "late 7", 0);
            text(z, "price 7", 0);
            z.keep();
            text(z, "late 8", 0);
            is(z.back(), 0);
            is(z.count(5), 2);
            is(z.why(2), 0);
            is(z.rules(2, 0, 0, 0), 7);
            is(text(z, "late 9", 0), 2);
            is(z.rules(2, 0, 0, 0), 9);
        });
        says("NO: there is none.", () -> {
            LineMaking x = new LineMaking();
            x.run(7);
            is(x.back(), NO);
            is(x.count(14), 7);
        });
    }

    /** Changes of all that an image keeps, as far as they are taken; it leaves an empty tape. */
    private static Script stir() {
        Script s = new Script().add("chains", 11).text("price 3", 0).text("late 3", 0);
        for (int i = 0; i < 8; i++) {
            s.add("set", i, 0, 3).add("set", i, 1, 40).add("set", i, 2, 1).add("bore", i).add("wet", i, 8).add("gang", 9).add("goes", i, NONE);
            s.add("work", 1, i, 30).add("ahead", i, 3).add("days", i, 50).add("measure", i, 0, 2).add("measure", i, 1, 1).add("arch", 4).add("face", 0, 2);
            s.add("claim", 0, i, 0).add("due", 1999, i);
        }
        for (int i = 0; i < 6; i++) s.add("rule", i, 8);
        // So that the works have something done, measured and paid.
        return s.add("goes", 7, 2).add("ahead", 2, 0).add("goes", 6, 0).add("ahead", 0, 0).add("call", 77).add("run", 60).add("ahead", 0, 3);
    }

    private static void counts() {
        in("Promise 50");
        says("How many: 0 CHAINS, 1 WORKS, 2 of these through, 3 SLIPS, 4 GANGS, 5 TEXTS, 6 CLAIMS, 7 DUES, 8 FACES, 9 ARCHES,", () -> {
            LineMaking x = new LineMaking();
            is(x.count(0), 8);
            for (int what = 1; what < 10; what++) is(x.count(what), 0);
            Script.full().on(x);
            int[] due = {24, 24, 0, 0, 8, 14, 20, 20, 6, 8};
            for (int what = 0; what < 10; what++) is(x.count(what), due[what]);
            // Two of three are through, two slipped.
            LineMaking y = new LineMaking();
            for (int chain = 0; chain < 3; chain++) {
                y.set(chain, 2, 3);
                deep(y, chain, 12 + chain);
                manned(y, 1, chain, 29 + chain / 2, 99);
            }
            y.wet(0, 7);
            y.run(1);
            is(y.count(2), 2);
            is(y.count(3), 2);
            is(y.count(1), 5);
        });
        says("10 what THE PURSE has, 11 RETAINED (both 0 at first), 12 numbers that wait, 13 bytes of THE TAPE, 14 the DAY.", () -> {
            LineMaking x = new LineMaking();
            for (int what = 10; what < 15; what++) is(x.count(what), 0);
            manned(x, 0, 0, 100, 99);
            measured(x, 0, 100, 100);
            x.call(99999);
            x.run(28);
            is(x.count(10), 99999 - 450);
            is(x.count(11), 50);
            x.tell(1);
            is(x.count(12), 1);
            x.feed(0, 0, 0);
            is(x.count(13), 12);
            is(x.count(14), 28);
        });
        says("BAD.", () -> {
            for (int what : outside(0, 14)) is(new LineMaking().count(what), BAD);
        });
    }
}
