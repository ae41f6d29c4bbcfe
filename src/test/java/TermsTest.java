/** The sentences of the document's Terms, each with a test of its own, at the boundaries that it names. */
public final class TermsTest extends Sentences {
    public static void main(String[] args) {
        in("What it is");
        says("An object is used for at most 512 calls after it has been made;", TermsTest::manyCalls);
        in("Terms");
        whatHoldsForAll();
        theLine();
        bestLevels();
        theHaul();
        works();
        rates();
        worths();
        gangsAndDays();
        whatGangsDo();
        slips();
        pay();
        tapeAndKeys();
        grammar();
        names();
        wordsAndBlanks();
        faults();
        values();
        whichTextCounts();
        joined();
        claims();
        dues();
        faces();
        arches();
        whatWaits();
        surveys();
        images();
        end();
    }

    private static void manyCalls() {
        LineMaking x = new LineMaking();
        for (int i = 1; i <= 511; i++) is(x.call(99999), 99999 * i);
        is(x.call(99999), 51199488);
    }

    private static void whatHoldsForAll() {
        says("All numbers are whole; / cuts towards 0.", () -> {
            is(worked("7/2", 0, 0), 3);
            is(worked("(0-7)/2", 0, 0), -3);
            is(worked("7/(0-2)", 0, 0), -3);
            is(worked("(0-7)/(0-2)", 0, 0), 3);
            is(worked("(0-1)/2", 0, 0), 0);
        });
        says("A call that is refused answers one of BAD, NO, FULL, or a FINDING, of several the one that stands first with it, "
            + "and changes nothing (but the tape and the numbers that wait, where told).", () -> {
            LineMaking x = new LineMaking();
            x.work(0, 0, 1);
            is(x.chains(25), BAD);
            is(x.chains(24), NO);
            is(x.count(0), 8);
            x.survey(0, 0, 1);
            is(x.note(1, 9, 100001), NOTHING);
            is(x.note(0, 9, 100001), INDEX);
            is(x.note(0, 0, 100001), BAD);
            is(x.read(0, 0), 0);
            x.feed(0, 0, 0);
            is(x.text(2000), BAD);
            is(x.count(13), 0);
            x.tell(0);
            is(x.check(1), NO);
            is(x.count(12), 0);
        });
        says("NONE: there is none.", () -> {
            LineMaking x = new LineMaking();
            x.work(0, 0, 1);
            x.gang(1);
            is(x.told(0, 4), NONE);
            is(x.goes(0, NONE), NONE);
            is(x.at(0, 2), NONE);
            is(x.why(0), NONE);
            is(x.out(), NONE);
            is(x.meets(1), NONE);
            is(x.order(0, 0), NONE);
        });
    }

    private static void theLine() {
        says("THE LINE has CHAINS 0 .. COUNT - 1 (COUNT 2 .. 24; 8 at first),", () -> {
            LineMaking x = new LineMaking();
            is(x.count(0), 8);
            for (int count : new int[] {8, 2, 24}) {
                x.chains(count);
                is(x.count(0), count);
                is(x.at(-1, 0), BAD);
                is(x.at(0, 0), 50);
                is(x.at(count - 1, 0), 50);
                is(x.at(count, 0), BAD);
            }
            is(x.chains(1), BAD);
            is(x.chains(25), BAD);
        });
        says("each with GROUND 0 .. 99 (50 at first), a LEVEL 0 .. 99 (50),", () -> {
            LineMaking x = new LineMaking();
            for (int what = 0; what < 2; what++) {
                is(x.set(7, what, 0), 50);
                is(x.set(7, what, -1), BAD);
                is(x.set(7, what, 99), 0);
                is(x.set(7, what, 100), BAD);
                is(x.at(7, what), 99);
                is(x.at(0, what), 50);
            }
        });
        says("and a true STRATUM 0 rock (at first), 1 gravel, 2 clay, 3 sand; BORED or not.", () -> {
            LineMaking x = new LineMaking();
            is(x.at(0, 2), NONE);
            is(x.set(0, 2, 3), 0);
            is(x.set(0, 2, 4), BAD);
            is(x.set(0, 2, -1), BAD);
            is(x.at(0, 2), NONE);
            is(x.bore(0), 3);
            is(x.at(0, 2), 3);
            is(x.at(1, 2), NONE);
            is(x.bore(1), 0);
        });
        says("DEPTH: GROUND less LEVEL (below 0: to be filled).", () -> {
            LineMaking x = new LineMaking();
            is(x.at(0, 3), 0);
            deep(x, 0, 99);
            is(x.at(0, 3), 99);
            deep(x, 0, -99);
            is(x.at(0, 3), -99);
        });
        says("STEEP is the line, if LEVELS of some two CHAINS beside one another differ by more than SLOPE (0 .. 9; 2 at first).", () -> {
            LineMaking x = line(2);
            for (int slope : new int[] {2, 0, 9}) {
                x.rule(0, slope);
                x.set(1, 1, 50 + slope);
                is(x.steep(), 0);
                x.set(1, 1, 51 + slope);
                is(x.steep(), 1);
                x.set(1, 1, 50 - slope);
                is(x.steep(), 0);
                x.set(1, 1, 49 - slope);
                is(x.steep(), 1);
            }
            is(x.rule(0, 10), BAD);
            is(x.rule(0, -1), BAD);
            is(new LineMaking().rule(0, 0), 2);
            // Of grounds nothing is steep.
            LineMaking y = line(2);
            y.set(1, 0, 99);
            is(y.steep(), 0);
        });
    }

    private static int[] bestOf(LineMaking x) {
        int[] levels = new int[x.count(0) + 1];
        for (int i = 0; i < levels.length; i++) levels[i] = x.best(i - 1);
        return levels;
    }

    private static LineMaking grounds(int... grounds) {
        LineMaking x = line(grounds.length);
        for (int i = 0; i < grounds.length; i++) x.set(i, 0, grounds[i]);
        return x;
    }

    private static void bestLevels() {
        says("THE BEST LEVELS: LEVELS that make the line not STEEP, with the least COST:", () -> {
            LineMaking x = grounds(0, 99);
            x.rule(0, 0);
            // Both at a level l: 3 * l and 2 * (99 - l).
            all(bestOf(x), 198, 0, 0);
            x.rule(0, 9);
            all(bestOf(x), 180, 0, 9);
            is(x.lay(), 180);
            is(x.steep(), 0);
            LineMaking y = grounds(99, 0);
            y.rule(0, 9);
            all(bestOf(y), 180, 9, 0);
            // On a slope that is just borne nothing is done.
            all(bestOf(grounds(0, 2, 4, 2)), 0, 0, 2, 4, 2);
            all(bestOf(grounds(99, 97, 99)), 0, 99, 97, 99);
            LineMaking z = line(24);
            for (int i = 0; i < 24; i++) z.set(i, 0, i % 2 * 99);
            for (int i = 0; i < 3; i++) z.rule(i, 9);
            is(z.best(-1), 12 * 9 * 90);
            for (int i = 0; i < 24; i++) is(z.best(i), i % 2 * 9);
        });
        says("of each CHAIN CUTS (0 .. 9; 2 at first) times what GROUND is above its LEVEL, FILLS (0 .. 9; 3 at first) times what it is below;", () -> {
            LineMaking x = grounds(60, 50);
            x.rule(0, 0);
            all(bestOf(x), 20, 50, 50);
            is(x.rule(1, 3), 2);
            is(x.rule(2, 2), 3);
            all(bestOf(x), 20, 60, 60);
            x.rule(1, 9);
            x.rule(2, 0);
            all(bestOf(x), 0, 60, 60);
            x.rule(1, 0);
            x.rule(2, 9);
            all(bestOf(x), 0, 0, 0);
            x.rule(1, 9);
            is(x.best(-1), 90);
            for (int what = 1; what <= 2; what++) {
                is(x.rule(what, 10), BAD);
                is(x.rule(what, -1), BAD);
            }
        });
        says("of several the first (by CHAINS, the lesser LEVEL first).", () -> {
            LineMaking x = grounds(60, 50);
            x.rule(1, 1);
            x.rule(2, 1);
            // 52 and 50 up to 60 and 58 cost the same.
            all(bestOf(x), 8, 52, 50);
            LineMaking y = grounds(50, 60);
            y.rule(1, 1);
            y.rule(2, 1);
            all(bestOf(y), 8, 50, 52);
            // Filling costs nothing: chain 0 as low as it may, then chain 1.
            LineMaking z = grounds(40, 50, 40);
            z.rule(2, 0);
            all(bestOf(z), 0, 48, 50, 48);
            z.rule(1, 0);
            all(bestOf(z), 0, 0, 0, 0);
            // Cutting costs nothing.
            z.rule(2, 1);
            all(bestOf(z), 0, 0, 0, 0);
        });
    }

    private static void theHaul() {
        says("THE HAUL: of each CHAIN DEPTH yards are there (above 0), or wanted (below 0).", () -> {
            LineMaking x = line(2);
            is(x.haul(), 0);
            deep(x, 0, 1);
            is(x.haul(), 5);
            deep(x, 0, -1);
            is(x.haul(), 9);
            deep(x, 1, 1);
            is(x.haul(), 1);
            deep(x, 0, -99);
            deep(x, 1, 99);
            is(x.haul(), 99);
        });
        says("Yards go from CHAIN to CHAIN beside it, 1 coin a yard each;", () -> {
            for (int far = 1; far < 24; far++) {
                LineMaking x = line(24);
                deep(x, 0, 2);
                deep(x, far, -2);
                // Borrowing and spoiling cost 9 and 5 instead.
                is(x.haul(), 2 * Math.min(far, 14));
                LineMaking y = line(24);
                deep(y, 23 - far, -2);
                deep(y, 23, 2);
                is(y.haul(), 2 * Math.min(far, 14));
            }
        });
        says("what is wanted may be BORROWED (0 .. 99 coins a yard; 9 at first), what is there SPOILT (0 .. 99; 5 at first);", () -> {
            LineMaking x = line(2);
            deep(x, 0, -3);
            is(x.haul(), 27);
            is(x.rule(3, 99), 9);
            is(x.haul(), 297);
            is(x.rule(3, 0), 99);
            is(x.haul(), 0);
            deep(x, 0, 3);
            is(x.haul(), 15);
            is(x.rule(4, 99), 5);
            is(x.haul(), 297);
            is(x.rule(4, 0), 99);
            is(x.haul(), 0);
            for (int what = 3; what <= 4; what++) {
                is(x.rule(what, 100), BAD);
                is(x.rule(what, -1), BAD);
            }
        });
        says("all that is wanted comes, nothing stays.", () -> {
            LineMaking x = line(24);
            x.rule(3, 99);
            x.rule(4, 99);
            for (int i = 0; i < 24; i++) deep(x, i, 99);
            is(x.haul(), 24 * 99 * 99);
            for (int i = 0; i < 24; i++) deep(x, i, -99);
            is(x.haul(), 24 * 99 * 99);
        });
        says("THE HAUL is the least COST of all that.", () -> {
            LineMaking x = line(3);
            // The middle has one yard less than both ends want: the one left is borrowed.
            deep(x, 0, -5);
            deep(x, 1, 9);
            deep(x, 2, -5);
            is(x.haul(), 9 + 9);
            deep(x, 1, 11);
            is(x.haul(), 10 + 5);
            x.rule(3, 0);
            // Borrowing for nothing and spoiling 11 costs more than hauling 10.
            is(x.haul(), 15);
            x.rule(4, 0);
            is(x.haul(), 0);
        });
    }

    private static void works() {
        says("WORKS, 24 at most, numbered from 0,", () -> {
            LineMaking x = new LineMaking();
            is(x.told(0, 0), BAD);
            for (int i = 0; i < 24; i++) is(x.work(0, 0, 1), i);
            is(x.work(0, 0, 1), FULL);
            is(x.told(23, 0), 0);
            is(x.told(24, 0), BAD);
        });
        says("of KINDS: 0 WORK; 1 CUT, 2 BANK, 4 BRIDGE, 6 WAY, under WORK; 3 TUNNEL, 5 SLIP, under CUT (all are WORKS):", () -> {
            LineMaking x = withSlip(1, 7);
            int[] kinds = {1, 5, 0, 2, 3, 4, 6};
            for (int i = 2; i < 7; i++) x.work(kinds[i], 0, 10 + i);
            for (int w = 0; w < 7; w++) {
                int yards = x.told(w, 2);
                is(x.told(w, 0), kinds[w]);
                for (int kind = 0; kind < 7; kind++) {
                    boolean fits = kind == 0 || kind == kinds[w] || kind == 1 && (kinds[w] == 3 || kinds[w] == 5);
                    is(x.as(w, kind), fits ? yards : KIND);
                }
            }
        });
        says("each at a CHAIN, YARDS 1 .. 9999 to do, DONE so many (0 at first), a GANG there, or none;", () -> {
            LineMaking x = new LineMaking();
            is(x.work(0, 7, 0), BAD);
            is(x.work(0, 7, 10000), BAD);
            is(x.work(0, 7, 1), 0);
            is(x.work(0, 7, 9999), 1);
            is(x.told(1, 1), 7);
            is(x.told(1, 2), 9999);
            is(x.told(1, 3), 0);
            is(x.told(1, 4), NONE);
            x.gang(1);
            x.goes(0, 1);
            is(x.told(1, 4), 0);
        });
        says("MEASURED by two HANDS (0 at first), PAID so many yards.", () -> {
            LineMaking x = new LineMaking();
            manned(x, 0, 0, 9, 50);
            is(x.told(0, 9), 0);
            is(x.told(0, 10), 0);
            is(x.told(0, 12), 0);
            is(x.measure(0, 0, 7), 0);
            is(x.measure(0, 1, 8), 0);
            is(x.told(0, 9), 7);
            is(x.told(0, 10), 8);
            until(x, 28);
            is(x.told(0, 12), 7);
        });
    }

    /** Work 0 is a cut in this stratum, work 1 the slip that it had on day 0, on a day of this wet; all at chain 0. */
    private static LineMaking withSlip(int stratum, int wet) {
        LineMaking x = new LineMaking();
        x.set(0, 2, stratum);
        deep(x, 0, 99);
        manned(x, 1, 0, 99, 99);
        x.wet(0, stratum == 2 ? 5 : 7);
        x.wet(1, wet);
        x.run(1);
        return x;
    }

    /** The rates of one work of a kind, by wet 0 .. 9. */
    private static int[] ratesOf(int kind, int stratum) {
        int[] rates = new int[10];
        for (int wet = 0; wet < 10; wet++) {
            LineMaking x = new LineMaking();
            x.set(0, 2, stratum);
            x.work(kind, 0, 1);
            x.wet(0, wet);
            rates[wet] = x.told(0, 7);
        }
        return rates;
    }

    private static void rates() {
        says("RATE of a WORK on a DAY with WET w: WORK: 2.", () -> {
            for (int stratum = 0; stratum < 4; stratum++) all(ratesOf(0, stratum), 2, 2, 2, 2, 2, 2, 2, 2, 2, 2);
        });
        says("CUT: by its STRATUM 1, 3, 2, 3; in clay 0 if w is above 6.", () -> {
            all(ratesOf(1, 0), 1, 1, 1, 1, 1, 1, 1, 1, 1, 1);
            all(ratesOf(1, 1), 3, 3, 3, 3, 3, 3, 3, 3, 3, 3);
            all(ratesOf(1, 2), 2, 2, 2, 2, 2, 2, 2, 0, 0, 0);
            all(ratesOf(1, 3), 3, 3, 3, 3, 3, 3, 3, 3, 3, 3);
        });
        says("BANK: as WORK, less 1 if w is above 4.", () -> {
            for (int stratum = 0; stratum < 4; stratum++) all(ratesOf(2, stratum), 2, 2, 2, 2, 2, 1, 1, 1, 1, 1);
        });
        says("TUNNEL: as CUT, half (up).", () -> {
            all(ratesOf(3, 0), 1, 1, 1, 1, 1, 1, 1, 1, 1, 1);
            all(ratesOf(3, 1), 2, 2, 2, 2, 2, 2, 2, 2, 2, 2);
            all(ratesOf(3, 2), 1, 1, 1, 1, 1, 1, 1, 0, 0, 0);
            all(ratesOf(3, 3), 2, 2, 2, 2, 2, 2, 2, 2, 2, 2);
        });
        says("BRIDGE: 1; 0 if w is above 7.", () -> {
            for (int stratum = 0; stratum < 4; stratum++) all(ratesOf(4, stratum), 1, 1, 1, 1, 1, 1, 1, 1, 0, 0);
        });
        says("SLIP: as CUT, and 1.", () -> {
            is(withSlip(1, 9).told(1, 7), 4);
            is(withSlip(2, 6).told(1, 7), 3);
            is(withSlip(2, 7).told(1, 7), 1);
            is(withSlip(3, 0).told(1, 7), 4);
            LineMaking x = withSlip(3, 0);
            x.set(0, 2, 0);
            is(x.told(1, 7), 2);
        });
        says("WAY: twice as WORK.", () -> {
            for (int stratum = 0; stratum < 4; stratum++) all(ratesOf(6, stratum), 4, 4, 4, 4, 4, 4, 4, 4, 4, 4);
        });
    }

    private static int worthOf(int kind, int stratum) {
        LineMaking x = new LineMaking();
        x.set(0, 2, stratum);
        x.work(kind, 0, 1);
        is(x.price(0), x.told(0, 8));
        return x.told(0, 8);
    }

    private static void worths() {
        says("WORTH of a yard (coins, without a TEXT): WORK: 5.", () -> {
            for (int stratum = 0; stratum < 4; stratum++) is(worthOf(0, stratum), 5);
            // A text changes the price, not the worth.
            LineMaking x = new LineMaking();
            x.work(0, 0, 1);
            text(x, "price 1", 0);
            is(x.told(0, 8), 5);
            is(x.price(0), 1);
        });
        says("CUT: as WORK, and STRATUM 0: 5 more.", () -> {
            is(worthOf(1, 0), 10);
            for (int stratum = 1; stratum < 4; stratum++) is(worthOf(1, stratum), 5);
        });
        says("TUNNEL: 4 times as CUT.", () -> {
            is(worthOf(3, 0), 40);
            for (int stratum = 1; stratum < 4; stratum++) is(worthOf(3, stratum), 20);
        });
        says("BRIDGE: 9.", () -> {
            for (int stratum = 0; stratum < 4; stratum++) is(worthOf(4, stratum), 9);
        });
        says("SLIP: as CUT, half (cut).", () -> {
            LineMaking x = withSlip(1, 0);
            is(x.told(1, 8), 2);
            x.set(0, 2, 0);
            is(x.told(1, 8), 5);
        });
        says("WAY: 2. BANK: as WORK.", () -> {
            for (int stratum = 0; stratum < 4; stratum++) {
                is(worthOf(6, stratum), 2);
                is(worthOf(2, stratum), 5);
            }
        });
        says("(Each by the true STRATUM of its CHAIN.)", () -> {
            LineMaking x = new LineMaking();
            x.work(1, 0, 1);
            x.work(1, 1, 1);
            x.bore(0);
            x.set(0, 2, 1);
            is(x.told(0, 7), 3);
            is(x.told(0, 8), 5);
            is(x.told(1, 7), 1);
            is(x.told(1, 8), 10);
            // Not bored: it is the true one all the same.
            x.set(1, 2, 2);
            is(x.told(1, 7), 2);
            is(x.told(1, 8), 5);
        });
    }

    private static void gangsAndDays() {
        says("GANGS, 8 at most, numbered from 0: HANDS 1 .. 99; at a WORK or at none;", () -> {
            LineMaking x = new LineMaking();
            is(x.gang(0), BAD);
            is(x.gang(100), BAD);
            is(x.gang(99), 0);
            is(x.goes(0, NONE), NONE);
            for (int i = 1; i < 8; i++) is(x.gang(1), i);
            is(x.gang(1), FULL);
            is(x.count(4), 8);
            x.work(0, 0, 100);
            x.work(0, 0, 100);
            x.goes(0, 0);
            x.goes(7, 1);
            x.run(1);
            is(x.told(0, 3), 19);
            is(x.told(1, 3), 0);
        });
        says("one WORK has one GANG at most.", () -> {
            LineMaking x = new LineMaking();
            x.work(0, 0, 1);
            x.gang(1);
            x.gang(1);
            is(x.goes(1, 0), NONE);
            is(x.goes(0, 0), NO);
            is(x.told(0, 4), 1);
            is(x.goes(1, 0), 0);
            is(x.goes(1, NONE), 0);
            is(x.goes(0, 0), NONE);
            is(x.told(0, 4), 0);
        });
        says("DAYS are numbered; the one that is open is 0 at first (1999 at most);", () -> {
            LineMaking x = new LineMaking();
            is(x.count(14), 0);
            until(x, 1998);
            is(x.run(2), FULL);
            is(x.run(1), 1999);
            is(x.run(1), FULL);
            is(x.count(14), 1999);
        });
        says("WET of a DAY 0 .. 9 (0 at first; told of DAYS 0 .. 1999, 0 behind these).", () -> {
            LineMaking x = new LineMaking();
            is(x.wet(0, 10), BAD);
            is(x.wet(0, -1), BAD);
            is(x.wet(-1, 0), BAD);
            is(x.wet(2000, 0), BAD);
            is(x.wet(0, 9), 0);
            is(x.wet(0, 0), 9);
            is(x.wet(1999, 8), 0);
            manned(x, 4, 0, 99, 10);
            until(x, 1999);
            is(x.told(0, 3), 99);
            manned(x, 4, 0, 99, 10);
            is(x.told(1, 7), 0);
            x.keep();
            // A bridge rests on day 1999, and is built on day 2000.
            for (int v : new int[] {99, 0, 100, 0}) x.tell(v);
            is(x.check(2), 0);
        });
    }

    private static void whatGangsDo() {
        says("(a) GANGS by numbers, at a WORK all of whose AHEAD (bits of WORKS; one that there is not is never) are through as its turn comes:", () -> {
            // Gang 0 is at the work that is ahead of the other one's: both go on one day.
            LineMaking x = new LineMaking();
            manned(x, 0, 0, 1, 5);
            manned(x, 0, 0, 9, 5);
            x.ahead(1, 1);
            x.run(1);
            is(x.told(1, 3), 1);
            // The other way round the second one waits a day.
            LineMaking y = new LineMaking();
            manned(y, 0, 0, 9, 5);
            manned(y, 0, 0, 1, 5);
            y.ahead(0, 2);
            y.run(1);
            is(y.told(0, 3), 0);
            y.run(1);
            is(y.told(0, 3), 1);
            // All of them, not some; the highest bit, too; one that there is not; itself.
            y.work(0, 0, 1);
            for (int set : new int[] {2 + 4, 1 << 23, 1 << 3, 1}) {
                y.ahead(0, set);
                y.run(1);
                is(y.told(0, 3), 1);
            }
            y.ahead(0, 0);
            y.run(1);
            is(y.told(0, 3), 2);
        });
        says("DONE is HANDS times RATE by 10 (cut) more, YARDS at most.", () -> {
            LineMaking x = new LineMaking();
            manned(x, 0, 0, 9999, 4);
            manned(x, 0, 0, 9999, 5);
            manned(x, 0, 0, 9999, 99);
            manned(x, 0, 0, 19, 99);
            manned(x, 0, 0, 20, 99);
            manned(x, 0, 0, 18, 99);
            x.run(1);
            int[] done = {0, 1, 19, 19, 19, 18};
            for (int w = 0; w < 6; w++) is(x.told(w, 3), done[w]);
            x.run(1);
            int[] then = {0, 2, 38, 19, 20, 18};
            for (int w = 0; w < 6; w++) is(x.told(w, 3), then[w]);
        });
        says("Through is a WORK with DONE as many as YARDS.", () -> {
            LineMaking x = new LineMaking();
            manned(x, 0, 0, 2, 5);
            is(x.count(2), 0);
            x.run(1);
            is(x.count(2), 0);
            x.run(1);
            is(x.count(2), 1);
        });
        says("(d) The next DAY is open.", () -> {
            LineMaking x = new LineMaking();
            is(x.run(1), 1);
            is(x.run(60), 61);
            is(x.due(60, 1), BAD);
            is(x.due(61, 1), 0);
        });
    }

    /** How many slips one day of this wet makes of a cut, one yard of it done, so deep in this stratum. */
    private static int slipsOf(int stratum, int depth, int wet) {
        LineMaking x = new LineMaking();
        x.set(0, 2, stratum);
        deep(x, 0, depth);
        int hands = stratum == 2 ? 5 : stratum == 0 ? 10 : 4;
        manned(x, 1, 0, 99, hands);
        x.run(1);
        is(x.told(0, 3), 1);
        x.wet(1, wet);
        x.run(1);
        return x.count(3);
    }

    private static void slips() {
        says("(b) SLIPS: of CHAINS by numbers that have none yet and have a WORK of KIND 1 itself with DONE above 0:", () -> {
            LineMaking x = new LineMaking();
            for (int chain = 0; chain < 5; chain++) {
                x.set(chain, 2, 3);
                deep(x, chain, 99);
            }
            manned(x, 1, 4, 50, 99);
            manned(x, 1, 2, 50, 4);
            // None done; a tunnel; no work at all.
            x.work(1, 0, 50);
            manned(x, 3, 1, 50, 99);
            for (int day = 0; day < 9; day++) x.wet(day, 9);
            x.run(1);
            is(x.count(3), 2);
            // By numbers of chains, not of works.
            is(x.told(4, 1), 2);
            is(x.told(5, 1), 4);
            x.run(5);
            is(x.count(3), 2);
            // One that is through slips no more, and one that is under a cut makes none.
            x.goes(0, 5);
            x.run(3);
            is(x.count(3), 2);
        });
        says("if DEPTH is above what stands (rock 99, gravel 20, clay 8, sand 12),", () -> {
            int[] stands = {99, 20, 8, 12};
            for (int stratum = 0; stratum < 4; stratum++) {
                is(slipsOf(stratum, stands[stratum], 9), 0);
                if (stratum > 0) is(slipsOf(stratum, stands[stratum] + 1, 9), 1);
                is(slipsOf(stratum, 0, 9), 0);
                is(slipsOf(stratum, -99, 9), 0);
            }
        });
        says("and WET is above 4 in clay, above 6 else:", () -> {
            is(slipsOf(2, 99, 4), 0);
            is(slipsOf(2, 99, 5), 1);
            for (int stratum = 1; stratum < 4; stratum += 2) {
                is(slipsOf(stratum, 99, 6), 0);
                is(slipsOf(stratum, 99, 7), 1);
            }
        });
        says("a SLIP of DEPTH YARDS (if there is room for a WORK; else nothing of it).", () -> {
            LineMaking x = new LineMaking();
            for (int chain = 0; chain < 2; chain++) {
                x.set(chain, 2, 2);
                deep(x, chain, 9 + 90 * chain);
                x.wet(chain, 5);
                manned(x, 1, 1 - chain, 50, 99);
            }
            for (int i = 2; i < 23; i++) x.work(0, 0, 1);
            x.run(1);
            is(x.count(1), 24);
            is(x.count(3), 1);
            is(x.told(23, 0), 5);
            is(x.told(23, 1), 0);
            is(x.told(23, 2), 9);
            int[] rest = {0, NONE, 0, 1, 3, 2, 0, 0, 0, 0};
            for (int what = 3; what < 13; what++) is(x.told(23, what), what == 8 ? 2 : what == 7 ? 3 : rest[what - 3]);
            x.run(1);
            is(x.count(1), 24);
            is(x.at(1, 5), 0);
        });
        says("FORETOLD: CHAINS (bits) that are BORED, with a WORK of KIND 1 itself, DEPTH above what stands, and no SLIP yet.", () -> {
            LineMaking x = line(24);
            for (int chain = 18; chain < 24; chain++) {
                x.set(chain, 2, 1);
                deep(x, chain, chain == 19 ? 20 : 21);
                if (chain != 20) x.bore(chain);
                if (chain != 21) x.work(chain == 22 ? 3 : 1, chain, 1);
            }
            // 19 stands, 20 is not bored, 21 has no work, 22 a tunnel.
            is(x.foretold(), 1 << 18 | 1 << 23);
            x.gang(99);
            x.goes(0, 0);
            x.wet(0, 7);
            x.run(1);
            is(x.at(18, 5), 1);
            is(x.foretold(), 1 << 23);
        });
    }

    /** A work of 5 coins a yard, with so many yards done and measured by both. */
    private static LineMaking toPay(int yards) {
        LineMaking x = new LineMaking();
        manned(x, 0, 0, yards, 99);
        until(x, 27);
        is(x.told(0, 3), yards);
        measured(x, 0, yards, yards);
        return x;
    }

    private static void purse(LineMaking x, int coins, int retained) {
        is(x.count(10), coins);
        is(x.count(11), retained);
    }

    private static void pay() {
        says("(c) If the DAY's number, and 1, is divided by 28:", () -> {
            LineMaking x = new LineMaking();
            manned(x, 0, 0, 400, 5);
            measured(x, 0, 400, 400);
            int paid = 0;
            for (int day = 0; day < 112; day++) {
                x.run(1);
                if (day == 27 || day == 55 || day == 83 || day == 111) paid = day + 1;
                is(x.told(0, 12), paid);
            }
        });
        says("PAY: WORKS by numbers: yards JOINED and not PAID yet (none, if JOINED is below PAID),", () -> {
            LineMaking x = toPay(100);
            x.run(1);
            purse(x, -450, 50);
            is(x.told(0, 12), 100);
            x.run(28);
            purse(x, -450, 50);
            // Measured less than is paid: nothing comes back, and it stays paid.
            measured(x, 0, 40, 100);
            is(x.told(0, 11), 40);
            x.run(28);
            purse(x, -450, 50);
            is(x.told(0, 12), 100);
            measured(x, 0, 100, 100);
            x.run(28);
            purse(x, -450, 50);
        });
        says("each at the PRICE, less RETAIN hundredths of all that (cut),", () -> {
            LineMaking x = toPay(3);
            x.run(1);
            purse(x, -14, 1);
            // Two of them: each is cut by itself, since each has a rule of its own.
            LineMaking y = toPay(3);
            manned(y, 0, 0, 3, 99);
            measured(y, 1, 3, 3);
            y.run(1);
            purse(y, -28, 2);
            LineMaking none = toPay(100);
            text(none, "retain 0-1", 0);
            none.run(1);
            purse(none, -500, 0);
            LineMaking whole = toPay(100);
            text(whole, "retain 101", 0);
            whole.run(1);
            purse(whole, 0, 500);
            LineMaking dear = new LineMaking();
            manned(dear, 6, 0, 9999, 99);
            until(dear, 279);
            is(dear.count(2), 1);
            measured(dear, 0, 9999, 9999);
            text(dear, "price 9999", 0);
            text(dear, "retain 99", 0);
            dear.run(1);
            purse(dear, -99891, 9889110);
        });
        says("leave THE PURSE (it may be below 0);", () -> {
            LineMaking x = toPay(2);
            x.call(8);
            x.run(1);
            purse(x, -1, 1);
        });
        says("RETAINED is those hundredths more.", () -> {
            LineMaking x = toPay(100);
            measured(x, 0, 60, 60);
            x.run(1);
            purse(x, -270, 30);
            measured(x, 0, 100, 100);
            x.run(28);
            purse(x, -450, 50);
        });
    }

    private static void tapeAndKeys() {
        says("TEXTS, 14 at most, numbered from 0, each in force from a DAY on,", () -> {
            LineMaking x = new LineMaking();
            is(x.of(0, 0), BAD);
            is(text(x, "late 1", 1), 0);
            for (int i = 1; i < 14; i++) is(text(x, "late 2", 1999), i);
            is(text(x, "late 3", 0), FULL);
            is(x.count(5), 14);
            is(x.of(13, 1), 1999);
            is(x.of(14, 1), BAD);
            is(x.why(2), NONE);
            x.run(1);
            is(x.why(2), 0);
            until(x, 1998);
            is(x.why(2), 0);
            x.run(1);
            is(x.why(2), 13);
        });
        says("from THE TAPE (96 bytes at most; an act that reads it uses it up, whatever it answers): KEY E.", () -> {
            LineMaking x = new LineMaking();
            for (int i = 1; i <= 8; i++) is(x.feed(0, 0, 0), 12 * i);
            is(x.feed(0, 0, 0), FULL);
            is(x.count(13), 96);
            is(x.text(0), -100);
            is(x.count(13), 0);
            is(text(x, "late 1", 2000), BAD);
            is(x.count(13), 0);
            String longest = "late 1" + "+1".repeat(45);
            for (int i = 0; i < 14; i++) {
                is(text(x, longest, 0), i);
                is(x.count(13), 0);
            }
            is(text(x, longest, 0), FULL);
            is(x.count(13), 0);
            is(x.rules(2, 0, 0, 0), 46);
        });
        says("KEY: price | retain | late | claim.", () -> {
            LineMaking x = new LineMaking();
            String[] keys = {"price", "retain", "late", "claim"};
            for (int i = 0; i < 4; i++) {
                is(text(x, keys[i] + " 1", 0), i);
                is(x.of(i, 0), i);
            }
            for (String other : new String[] {"", "pric 1", "prices 1", "claims 1", "lat 1", "retai 1", "Late 1", "work 1", "e 1"}) is(faultOf(other), 0);
        });
    }

    private static void grammar() {
        says("E, the loosest first: OR: AND { | AND };", () -> {
            is(worked("0|0", 0, 0), 0);
            is(worked("0|0|7", 0, 0), 1);
            is(worked("1|0&0", 0, 0), 1);
            is(faultOf("claim |1"), 6);
            is(faultOf("claim 1|"), 8);
            is(faultOf("claim 1||1"), 8);
        });
        says("AND: TEST { & TEST };", () -> {
            is(worked("1&2", 0, 0), 1);
            is(worked("1&2&0", 0, 0), 0);
            is(worked("2=2&3=3", 0, 0), 1);
            is(faultOf("claim &1"), 6);
            is(faultOf("claim 1&"), 8);
            is(faultOf("claim 1&|1"), 8);
        });
        says("TEST: SUM [ (< | = | >) SUM ];", () -> {
            is(worked("1+1=2", 0, 0), 1);
            is(worked("1<1", 0, 0), 0);
            is(worked("1>1", 0, 0), 0);
            is(worked("0<1", 0, 0), 1);
            is(worked("1>0", 0, 0), 1);
            // One at most, without brackets.
            for (String sign : new String[] {"<", "=", ">"}) {
                is(faultOf("claim 1" + sign + "2<3"), 9);
                is(faultOf("claim 1" + sign + "2=3"), 9);
                is(faultOf("claim 1" + sign + "2+1*1>3"), 13);
            }
            is(faultOf("claim 1<(2<3)"), -1);
            is(faultOf("claim (1<2<3)"), 10);
            is(faultOf("claim 1<2&2<3|3<4"), -1);
        });
        says("SUM: TERM { (+ | -) TERM };", () -> {
            is(worked("9-4-3", 0, 0), 2);
            is(worked("1+2*3", 0, 0), 7);
            is(faultOf("claim -1"), 6);
            is(faultOf("claim +1"), 6);
            is(faultOf("claim 1+-1"), 8);
            is(faultOf("claim 1-"), 8);
        });
        says("TERM: PART { (* | /) PART };", () -> {
            is(worked("7/2*2", 0, 0), 6);
            is(worked("100/10/5", 0, 0), 2);
            is(faultOf("claim *1"), 6);
            is(faultOf("claim 1*/1"), 8);
            is(faultOf("claim 1/"), 8);
        });
        says("PART: NUMBER (1 to 4 digits) | NAME | ! PART | ( E ).", () -> {
            is(worked("0", 0, 0), 0);
            is(worked("9999", 0, 0), 9999);
            is(worked("0007", 0, 0), 7);
            is(faultOf("claim 10000"), 6);
            is(worked("!c", 0, 0), 1);
            is(worked("!c+1", 5, 0), 1);
            is(worked("!c*3", 0, 0), 3);
            is(worked("(c+1)*2", 5, 0), 12);
            is(worked("!(c-5)", 5, 0), 1);
            is(worked("((c))", 5, 0), 5);
            // Whatever stands in brackets is worked out by itself, the loosest, too.
            is(worked("(0|7)*2", 0, 0), 2);
            is(worked("2*(0|7)", 0, 0), 2);
            is(worked("(1&0)+5", 0, 0), 5);
            is(worked("(1<2)*9", 0, 0), 9);
            is(worked("(1|0)&0", 0, 0), 0);
            is(worked("!(0|0)+1", 0, 0), 2);
            is(worked("7-(3-(2-1))", 0, 0), 5);
            is(worked("8/(4/2)", 0, 0), 4);
            is(faultOf("claim ()"), 7);
            is(faultOf("claim !"), 7);
            is(faultOf("claim !)"), 7);
            is(faultOf("claim 1!"), 7);
            is(faultOf("claim 1(2)"), 7);
            is(faultOf("claim (1"), 8);
            is(faultOf("claim 1)"), 7);
            is(faultOf("claim (1))"), 9);
        });
    }

    /** Each letter that is no name is a fault. */
    private static void onlyNames(String key, String names) {
        for (char letter = 'a'; letter <= 'z'; letter++) {
            is(faultOf(key + " " + letter), names.indexOf(letter) >= 0 ? -1 : key.length() + 1);
        }
        is(faultOf(key + " " + names.charAt(0) + names.charAt(0)), key.length() + 1);
    }

    private static void names() {
        says("NAMES, each one letter: of price k KIND, d DEPTH of its CHAIN, w WORTH;", () -> {
            onlyNames("price", "kdw");
            LineMaking x = new LineMaking();
            x.work(3, 0, 1);
            deep(x, 0, -99);
            text(x, "price k*100-d+w", 0);
            is(x.price(0), 439);
            deep(x, 0, 99);
            is(x.price(0), 241);
        });
        says("of retain k, y YARDS (to do);", () -> {
            onlyNames("retain", "ky");
            LineMaking x = toPay(100);
            // All 100 are done by now, and still y is 100.
            text(x, "retain (y=100)*50+k", 0);
            x.run(1);
            purse(x, -250, 250);
        });
        says("of late n DAYS late;", () -> {
            onlyNames("late", "n");
            LineMaking x = new LineMaking();
            text(x, "late n", 0);
            is(x.late(1000), 1);
        });
        says("of claim c the cause, w WET of the DAY.", () -> {
            onlyNames("claim", "cw");
            LineMaking x = new LineMaking();
            text(x, "claim c=w", 0);
            x.claim(0, 9, 3);
            x.claim(0, 9, 0);
            x.wet(4, 3);
            is(x.given(0), 1);
            is(x.given(1), 9);
        });
    }

    private static void wordsAndBlanks() {
        says("A word is a row of letters a .. z, or of digits, as long as it goes; any other byte is a sign by itself.", () -> {
            is(faultOf("pricea 1"), 0);
            is(faultOf("pricez 1"), 0);
            // The bytes beside a, z, 0 and 9, and the least and the greatest.
            for (char other : new char[] {'`', '{', '/', ':', 'A', 'Z', 0, 31, 33, 127, 128, 255}) {
                is(faultOf("price" + other + "k"), other == 33 ? -1 : 5);
                is(faultOf("price k" + other + "k"), other == '/' ? -1 : 7);
                is(faultOf("price 1" + other + "1"), other == '/' ? -1 : 7);
            }
            is(faultOf("price (k)*!d"), -1);
        });
        says("Between words and signs, and at the ends, there may be blanks (byte 32); a word right behind another one needs one.", () -> {
            is(faultOf("  late   (  n  +  1  )  "), -1);
            is(faultOf("late(n+1)"), -1);
            is(faultOf("late!n"), -1);
            is(faultOf("late n\t+1"), 6);
            is(faultOf("late\n1"), 4);
            is(faultOf("late1"), 4);
            is(faultOf("late 1"), -1);
            is(faultOf("la te 1"), 0);
            is(faultOf("late 1 1"), 7);
        });
    }

    private static void faults() {
        says("FAULT: the first byte of the first word or sign with which no TEXT goes on", () -> {
            is(faultOf("   pricks k"), 3);
            is(faultOf("price   dd"), 8);
            is(faultOf("price k  9 "), 9);
            is(faultOf("price k +"), 9);
            is(faultOf("price k + )"), 10);
            is(faultOf("5 price"), 0);
            is(faultOf("price price"), 6);
        });
        says("(a word that needs a blank ahead of it,", () -> {
            is(faultOf("price9"), 5);
            is(faultOf("price k9"), 7);
            is(faultOf("price 9k"), 7);
            is(faultOf("price 9999k"), 10);
        });
        says("a NUMBER of more than 4 digits,", () -> {
            is(faultOf("price 9999"), -1);
            is(faultOf("price 00000"), 6);
            is(faultOf("price k+12345"), 8);
            is(faultOf("price 1234567890123456789012345678901234567890"), 6);
        });
        says("the ninth ( that would be open within others,", () -> {
            String eight = "(".repeat(8) + "1" + ")".repeat(8);
            is(faultOf("price" + eight), -1);
            is(faultOf("price" + eight + "+" + eight), -1);
            is(faultOf("price(" + eight + ")"), 13);
            is(faultOf("price " + "(".repeat(90)), 14);
            // Through nots, too; and one that is closed again is not open.
            is(faultOf("price " + "!(".repeat(8) + "(1"), 22);
            is(faultOf("price " + "(".repeat(7) + "1)+(1)+((1" + ")".repeat(8)), -1);
            is(faultOf("price " + "(".repeat(7) + "1)+(1)+(((1" + ")".repeat(9)), 22);
        });
        says("the ninth ! likewise (through ( ), too), each by itself);", () -> {
            is(faultOf("price !!!!!!!!1"), -1);
            is(faultOf("price !!!!!!!!1+!!!!!!!!1"), -1);
            is(faultOf("price !!!!!!!!!1"), 14);
            is(faultOf("price !!!!(!!!!1)"), -1);
            is(faultOf("price !!!!(!!!!(!1))"), 16);
            is(faultOf("price !!!!(!!!!1+!!!!1)"), -1);
            is(faultOf("price !!!!(!!!!1+!!!!!1)"), 21);
            is(faultOf("price !(1)+!(!!!!!!!1)"), -1);
            // Eight of each.
            is(faultOf("price " + "(!".repeat(8) + "1" + ")".repeat(8)), -1);
            is(faultOf("price " + "(!".repeat(8) + "!1" + ")".repeat(8)), 22);
            is(faultOf("price " + "(!".repeat(8) + "(1" + ")".repeat(8)), 22);
        });
        says("the end (the place behind the last byte, blanks, too), if it comes too soon.", () -> {
            is(faultOf(""), 0);
            is(faultOf(" ".repeat(96)), 96);
            is(faultOf("price"), 5);
            is(faultOf("price  "), 7);
            is(faultOf("price k+"), 8);
            is(faultOf("price k+ "), 9);
            is(faultOf("price (k"), 8);
            is(faultOf("price !"), 7);
            is(faultOf("price k" + " ".repeat(89)), -1);
            is(faultOf("price k+" + " ".repeat(88)), 96);
        });
    }

    private static void values() {
        says("Ints wrap;", () -> {
            is(worked("c+w", HIGH, 1), LOW);
            is(worked("c-w", LOW, 1), HIGH);
            is(worked("c*w", LOW, -1), LOW);
            is(worked("c/w", LOW, -1), LOW);
            is(worked("c*w", 65536, 65536), 0);
            is(worked("9999*9999*9999", 0, 0), -1027349969);
            LineMaking x = new LineMaking();
            is(x.rules(2, 429496730, 0, 0), 4);
            text(x, "price w+1", 0);
            is(x.rules(0, 0, 0, HIGH), 0);
        });
        says("/ is 0 by 0;", () -> {
            is(worked("7/0", 0, 0), 0);
            is(worked("c/w", LOW, 0), 0);
            is(worked("0/0+5", 0, 0), 5);
        });
        says("tests, & | ! give 1 or 0 (what is not 0 is true; both sides are worked out).", () -> {
            for (int v : new int[] {0, 1, -1, 7, LOW, HIGH}) {
                int isTrue = v != 0 ? 1 : 0;
                is(worked("c&7", v, 0), isTrue);
                is(worked("7&c", v, 0), isTrue);
                is(worked("c&0", v, 0), 0);
                is(worked("c|0", v, 0), isTrue);
                is(worked("0|c", v, 0), isTrue);
                is(worked("c|7", v, 0), 1);
                is(worked("!c", v, 0), 1 - isTrue);
                is(worked("!!c", v, 0), isTrue);
                is(worked("c<0", v, 0), v < 0 ? 1 : 0);
                is(worked("c>0", v, 0), v > 0 ? 1 : 0);
                is(worked("c=0", v, 0), 1 - isTrue);
            }
            // Not by the sign of a difference that wraps.
            is(worked("c<w", LOW, HIGH), 1);
            is(worked("c>w", LOW, HIGH), 0);
            is(worked("0&1/0", 0, 0), 0);
            is(worked("1|1/0", 0, 0), 1);
        });
    }

    private static void whichTextCounts() {
        says("Of a KEY that TEXT counts on a DAY which is in force, with the latest DAY, of several the greatest number.", () -> {
            LineMaking x = new LineMaking();
            text(x, "late 7", 5);
            text(x, "late 8", 4);
            text(x, "late 9", 5);
            text(x, "price 1", 5);
            text(x, "late 6", 6);
            until(x, 3);
            is(x.why(2), NONE);
            int[] due = {1, 2, 4};
            for (int day = 4; day < 7; day++) {
                x.run(1);
                is(x.why(2), due[day - 4]);
                is(x.why(0), day >= 5 ? 3 : NONE);
            }
            // A later number of an earlier day does not count.
            text(x, "late 5", 5);
            is(x.why(2), 4);
        });
        says("THE RULE of a KEY is what its E gives; without a TEXT: price w, retain 10, late 10 * n, claim w > 4.", () -> {
            LineMaking x = new LineMaking();
            is(x.rules(0, 7, 8, 9), 9);
            is(x.rules(1, 7, 8, 9), 10);
            is(x.rules(2, 7, 8, 9), 70);
            is(x.rules(3, 7, 4, 9), 0);
            is(x.rules(3, 7, 5, 9), 1);
            text(x, "retain 3", 0);
            is(x.rules(1, 7, 8, 9), 3);
        });
        says("It is held: of price 0 .. 999, of retain 0 .. 100, of late 0 .. 99999.", () -> {
            LineMaking x = new LineMaking();
            for (int[] held : new int[][] {{-1, 0}, {0, 0}, {1, 1}, {999, 999}, {1000, 999}, {LOW, 0}, {HIGH, 999}}) is(x.rules(0, 0, 0, held[0]), held[1]);
            text(x, "retain k", 0);
            for (int[] held : new int[][] {{-1, 0}, {0, 0}, {1, 1}, {100, 100}, {101, 100}, {LOW, 0}, {HIGH, 100}}) is(x.rules(1, held[0], 0, 0), held[1]);
            text(x, "late n", 0);
            for (int[] held : new int[][] {{-1, 0}, {0, 0}, {1, 1}, {99999, 99999}, {100000, 99999}, {LOW, 0}, {HIGH, 99999}}) is(x.rules(2, held[0], 0, 0), held[1]);
        });
    }

    private static void joined() {
        says("JOINED of a WORK: the lesser of both HANDS' yards, DONE at most.", () -> {
            LineMaking x = new LineMaking();
            manned(x, 0, 0, 19, 99);
            measured(x, 0, 9999, 9999);
            is(x.told(0, 11), 0);
            x.run(1);
            is(x.told(0, 11), 19);
            for (int[] yards : new int[][] {{18, 20, 18}, {20, 18, 18}, {19, 19, 19}, {20, 20, 19}, {0, 9999, 0}, {9999, 1, 1}}) {
                measured(x, 0, yards[0], yards[1]);
                is(x.told(0, 11), yards[2]);
            }
        });
        says("QUARREL: the yards of both HANDS are unlike.", () -> {
            LineMaking x = new LineMaking();
            x.work(0, 0, 1);
            x.work(0, 0, 1);
            is(x.quarrels(), 0);
            measured(x, 0, 5, 6);
            is(x.quarrels(), 1);
            // Unlike, though both are more than is done.
            measured(x, 1, 9999, 9998);
            is(x.quarrels(), 2);
            measured(x, 0, 6, 6);
            is(x.quarrels(), 1);
        });
    }

    private static void claims() {
        says("CLAIMS, 20 at most, numbered from 0: DAYS from one to another one, a cause 0 .. 3.", () -> {
            LineMaking x = new LineMaking();
            is(x.given(0), BAD);
            is(x.claim(0, 0, -1), BAD);
            is(x.claim(0, 0, 4), BAD);
            is(x.claim(0, 0, 0), 0);
            is(x.claim(1999, 1999, 3), 1);
            for (int i = 2; i < 20; i++) is(x.claim(0, 1999, 1), i);
            is(x.claim(0, 0, 0), FULL);
            is(x.given(19), 0);
            is(x.given(20), BAD);
            is(x.count(6), 20);
        });
        says("GIVEN of a CLAIM: DAYS of it for which claim is not 0 (by the TEXTS that count now), and which no CLAIM of a lesser number was GIVEN.", () -> {
            LineMaking x = new LineMaking();
            x.claim(31, 33, 0);
            x.claim(0, 1999, 1);
            x.claim(0, 1999, 2);
            for (int day : new int[] {0, 31, 32, 33, 34, 1999}) x.wet(day, 5);
            is(x.given(0), 3);
            is(x.given(1), 3);
            is(x.given(2), 0);
            // Below 0 is not 0; a day that the lesser one was not given is free.
            text(x, "claim 0-c", 1);
            is(x.given(0), 3);
            x.run(1);
            is(x.given(0), 0);
            is(x.given(1), 2000);
            is(x.given(2), 0);
            text(x, "claim c=2", 1);
            is(x.given(1), 0);
            is(x.given(2), 2000);
            text(x, "claim c&(w>4)", 1);
            is(x.given(0), 0);
            is(x.given(1), 6);
            // Each cause and each wet by itself.
            for (int cause = 0; cause < 4; cause++) {
                for (int wet = 0; wet < 10; wet++) {
                    LineMaking y = new LineMaking();
                    text(y, "claim c=" + cause + "&(w=" + wet + ")", 0);
                    for (int day = 0; day < 10; day++) y.wet(day, day);
                    for (int i = 0; i < 4; i++) y.claim(0, 9, i);
                    for (int i = 0; i < 4; i++) is(y.given(i), i == cause ? 1 : 0);
                    is(y.late(1000), 0);
                    is(y.late(1001), 10);
                }
            }
        });
        says("LATE, if opened on a DAY: by how much that is behind THE TERM (0 .. 1999; 999 at first), less GIVEN DAYS of all CLAIMS, 0 at least:", () -> {
            LineMaking x = new LineMaking();
            is(x.late(999), 0);
            is(x.late(1000), 10);
            is(x.late(0), 0);
            is(x.rule(5, 2000), BAD);
            is(x.rule(5, -1), BAD);
            is(x.rule(5, 1999), 999);
            is(x.late(1999), 0);
            is(x.late(2000), 10);
            is(x.rule(5, 0), 1999);
            is(x.late(0), 0);
            is(x.late(1), 10);
            is(x.late(9999), 99990);
            x.claim(0, 1, 0);
            x.claim(1, 2, 0);
            for (int day = 0; day < 3; day++) x.wet(day, 5);
            is(x.late(3), 0);
            is(x.late(2), 0);
            is(x.late(4), 10);
        });
        says("THE RULE of late (as it is now) for so many (for 0, too).", () -> {
            LineMaking x = new LineMaking();
            text(x, "late 50-n", 0);
            text(x, "late 60-n", 5);
            is(x.late(0), 50);
            is(x.late(999), 50);
            is(x.late(1000), 49);
            is(x.late(1050), 0);
            until(x, 5);
            is(x.late(0), 60);
        });
    }

    private static void dues() {
        says("DUES, 20 at most, numbered from 0: on a DAY so many coins come to THE PURSE, or leave it (-99999 .. 99999).", () -> {
            LineMaking x = new LineMaking();
            is(x.due(0, 100000), BAD);
            is(x.due(0, -100000), BAD);
            is(x.due(0, 99999), 0);
            is(x.due(1, -99999), 1);
            for (int i = 2; i < 20; i++) is(x.due(1999, 0), i);
            is(x.due(0, 0), FULL);
            is(x.count(7), 20);
            x.run(1);
            is(x.count(10), 99999);
            x.run(1);
            is(x.count(10), 0);
        });
        says("RUNS OUT: the first of the 400 DAYS from the open one on by whose end THE PURSE as it is now, with DUES alone "
            + "(all of one DAY together), would be below 0; NONE.", () -> {
            LineMaking x = new LineMaking();
            is(x.out(), NONE);
            x.due(400, -1);
            is(x.out(), NONE);
            x.run(1);
            is(x.out(), 400);
            x.call(1);
            is(x.out(), NONE);
            x.due(9, -2);
            x.due(9, 1);
            is(x.out(), 400);
            x.due(9, -1);
            is(x.out(), 9);
            x.due(8, 1);
            is(x.out(), 400);
            x.due(400, 1);
            is(x.out(), NONE);
            // One that is below 0 already runs out on the open day, unless as much comes that day.
            LineMaking y = new LineMaking();
            y.due(0, -1);
            is(y.out(), 0);
            y.run(1);
            is(y.out(), 1);
            y.due(1, 1);
            is(y.out(), NONE);
            // Days behind 1999 are days, too, and nothing is due on them.
            LineMaking z = new LineMaking();
            z.due(1999, -1);
            until(z, 1599);
            is(z.out(), NONE);
            z.run(1);
            is(z.out(), 1999);
            until(z, 1999);
            is(z.out(), 1999);
            z.call(1);
            is(z.out(), NONE);
            // What works will cost does not count.
            LineMaking alone = toPay(100);
            is(alone.out(), NONE);
        });
        says("(DUES of DAYS that go by come to THE PURSE, too, ahead of (c).)", () -> {
            LineMaking x = toPay(100);
            x.due(27, 1000);
            x.due(28, -7);
            x.run(1);
            purse(x, 550, 50);
            x.run(1);
            purse(x, 543, 50);
            x.run(60);
            purse(x, 543, 50);
        });
    }

    private static void faces() {
        says("FACES of the tunnel, 6 at most, numbered from 0: from a DAY on, YARDS 1 .. 99 a DAY.", () -> {
            LineMaking x = new LineMaking();
            is(x.face(0, 0), BAD);
            is(x.face(0, 100), BAD);
            is(x.face(0, 1), 0);
            is(x.face(1999, 99), 1);
            for (int i = 2; i < 6; i++) is(x.face(5, 1), i);
            is(x.face(0, 1), FULL);
            is(x.count(8), 6);
            // One yard on each of days 0 .. 4, then five.
            is(x.meets(5), 4);
            is(x.meets(6), 5);
            is(x.meets(10), 5);
            is(x.meets(11), 6);
        });
        says("MEETS for a length 1 .. 9999: the first DAY (from 0 on) by whose end all FACES have done as much together; NONE: without FACES.", () -> {
            LineMaking x = new LineMaking();
            is(x.meets(1), NONE);
            is(x.meets(0), BAD);
            is(x.meets(10000), BAD);
            x.face(1999, 1);
            is(x.meets(1), 1999);
            is(x.meets(2), 2000);
            is(x.meets(9999), 11997);
            x.face(0, 99);
            is(x.meets(1), 0);
            is(x.meets(99), 0);
            is(x.meets(100), 1);
            is(x.meets(9999), 100);
            LineMaking y = new LineMaking();
            for (int i = 0; i < 6; i++) y.face(1999, 99);
            is(y.meets(594), 1999);
            is(y.meets(595), 2000);
            // Days that go by do not matter.
            until(y, 100);
            is(y.meets(594), 1999);
        });
    }

    private static LineMaking arched(int... thrusts) {
        LineMaking x = new LineMaking();
        for (int thrust : thrusts) x.arch(thrust);
        return x;
    }

    private static int[] orderOf(LineMaking x, int p) {
        int[] order = new int[x.count(9)];
        for (int i = 0; i < order.length; i++) order[i] = x.order(p, i);
        return order;
    }

    private static void arches() {
        says("ARCHES, 8 at most, numbered from 0, side by side: a THRUST 1 .. 9 each.", () -> {
            LineMaking x = new LineMaking();
            is(x.arch(0), BAD);
            is(x.arch(10), BAD);
            for (int i = 0; i < 8; i++) is(x.arch(i + 1), i);
            is(x.arch(9), FULL);
            is(x.count(9), 8);
            is(arched(9).arch(1), 1);
        });
        says("PIERS stand between two of them: PUSHED by as much as THRUSTS of both differ, those that are not there yet counting 0.", () -> {
            all(orderOf(arched(5, 5), 5), 0, 1);
            all(orderOf(arched(5, 5), 4), NONE, NONE);
            // 4 first, or the pier is pushed by 6; then by 2.
            all(orderOf(arched(6, 4), 4), 1, 0);
            all(orderOf(arched(4, 6), 4), 0, 1);
            all(orderOf(arched(4, 6), 3), NONE, NONE);
            // All there, the two differ by 8, though each could be first.
            all(orderOf(arched(1, 9), 8), 0, 1);
            all(orderOf(arched(1, 9), 7), NONE, NONE);
        });
        says("THE ORDER for p: that in which arches are built one by one, so that no PIER is PUSHED by more than p behind any;", () -> {
            all(orderOf(arched(9, 4, 9), 5), 1, 0, 2);
            all(orderOf(arched(9, 4, 9), 4), NONE, NONE, NONE);
            // 9 can only stand beside 7, which pushes by 7 until 9 and 5 are there.
            all(orderOf(arched(9, 7, 5, 3, 1), 7), 1, 0, 2, 3, 4);
            all(orderOf(arched(9, 7, 5, 3, 1), 6), NONE, NONE, NONE, NONE, NONE);
            all(orderOf(arched(1, 1), 0), NONE, NONE);
            all(orderOf(arched(1, 1), 1), 0, 1);
        });
        says("of several the first (by numbers).", () -> {
            all(orderOf(arched(9, 9, 9, 9, 9, 9, 9, 9), 9), 0, 1, 2, 3, 4, 5, 6, 7);
            all(orderOf(arched(9, 9, 9, 9, 9, 9, 9, 9), 8), NONE, NONE, NONE, NONE, NONE, NONE, NONE, NONE);
            // 1 right behind 0 would push the next pier by 5.
            all(orderOf(arched(2, 5, 2, 5), 3), 0, 2, 1, 3);
            all(orderOf(arched(2, 5, 2, 5), 5), 0, 1, 2, 3);
        });
        says("(The outer ends hold.)", () -> {
            all(orderOf(arched(9), 0), 0);
            // 9 at the end pushes one pier only, when the one beside it is there.
            all(orderOf(arched(9, 5), 5), 1, 0);
        });
    }

    private static void whatWaits() {
        says("THROUGH of a WORK: its DAYS (told, 1 .. 99; 1 at first) and the latest THROUGH of those AHEAD of it;", () -> {
            LineMaking x = new LineMaking();
            for (int i = 0; i < 24; i++) x.work(0, 0, 1);
            is(x.through(23), 1);
            is(x.days(23, 100), BAD);
            is(x.days(23, 0), BAD);
            is(x.days(23, 99), 1);
            is(x.through(23), 99);
            x.ahead(0, 1 << 23 | 2);
            is(x.through(0), 100);
            x.days(1, 99);
            x.ahead(1, 4);
            is(x.through(0), 101);
            for (int i = 0; i < 24; i++) x.days(i, 99);
            for (int i = 0; i < 23; i++) x.ahead(i, (1 << 24) - (2 << i));
            is(x.through(0), 2376);
        });
        says("NONE: it waits for itself, or for one that does, or for one that there is not.", () -> {
            LineMaking x = new LineMaking();
            for (int i = 0; i < 4; i++) x.work(0, 0, 1);
            x.ahead(0, 1);
            is(x.through(0), NONE);
            x.ahead(1, 1);
            is(x.through(1), NONE);
            x.ahead(2, 2);
            is(x.through(2), NONE);
            is(x.through(3), 1);
            // In a round of three.
            x.ahead(0, 4);
            for (int i = 0; i < 3; i++) is(x.through(i), NONE);
            x.ahead(0, 16);
            is(x.through(0), NONE);
            is(x.through(2), NONE);
            x.work(0, 0, 1);
            is(x.through(0), 2);
            is(x.through(2), 4);
            x.ahead(0, 1 << 23);
            is(x.through(0), NONE);
        });
        says("THE CHAIN of a WORK: from it on the one AHEAD that is THROUGH latest (of several the least), and so on.", () -> {
            LineMaking x = new LineMaking();
            for (int i = 0; i < 5; i++) x.work(0, 0, 1);
            x.ahead(4, 1 | 2 | 4);
            x.days(1, 3);
            x.days(2, 3);
            x.ahead(1, 8);
            all(new int[] {x.chain(4, 0), x.chain(4, 1), x.chain(4, 2), x.chain(4, 3)}, 4, 1, 3, NONE);
            x.days(2, 4);
            all(new int[] {x.chain(4, 0), x.chain(4, 1), x.chain(4, 2), x.chain(4, 3)}, 4, 1, 3, NONE);
            x.days(2, 5);
            all(new int[] {x.chain(4, 0), x.chain(4, 1), x.chain(4, 2), x.chain(4, 3)}, 4, 2, NONE, NONE);
        });
    }

    private static LineMaking floats(int... halves) {
        LineMaking x = new LineMaking();
        x.survey(0, 0, halves.length);
        for (int i = 0; i < halves.length; i++) x.note(0, i, halves[i]);
        return x;
    }

    private static int[] readings(LineMaking x, int survey, int places) {
        int[] read = new int[places];
        for (int i = 0; i < places; i++) read[i] = x.read(survey, i);
        return read;
    }

    private static void surveys() {
        says("SURVEYS 0 .. 3 are rows of floats (sort 0; halves) or shorts (1), with 0 to 24 places, or MISSING (at first).", () -> {
            LineMaking x = new LineMaking();
            is(x.survey(-1, 0, 1), BAD);
            is(x.survey(4, 0, 1), BAD);
            for (int s = 0; s < 4; s++) {
                is(x.read(s, 0), NOTHING);
                is(x.survey(s, s % 2, 24), 24);
                is(x.read(s, 23), 0);
                is(x.read(s, 24), INDEX);
                is(x.survey(s, s % 2, 25), BAD);
                is(x.survey(s, s % 2, 0), 0);
                is(x.read(s, 0), INDEX);
            }
            is(x.survey(0, 2, 1), BAD);
            is(x.survey(0, -2, 1), BAD);
        });
        says("A place of floats may be NO NUMBER: it is read on the line between the nearest numbers on both sides (what it is, in halves, cut towards 0),", () -> {
            all(readings(floats(0, NONE, NONE, NONE, 2), 0, 5), 0, 0, 1, 1, 2);
            all(readings(floats(0, NONE, NONE, NONE, -2), 0, 5), 0, 0, -1, -1, -2);
            all(readings(floats(-1, NONE, 2), 0, 3), -1, 0, 2);
            all(readings(floats(-2, NONE, 1), 0, 3), -2, 0, 1);
            all(readings(floats(-5, NONE, 2), 0, 3), -5, -1, 2);
            all(readings(floats(9, NONE, 3, NONE, 4), 0, 5), 9, 6, 3, 3, 4);
            int[] wide = new int[24];
            java.util.Arrays.fill(wide, NONE);
            wide[0] = -100000;
            wide[23] = 100000;
            LineMaking x = floats(wide);
            is(x.read(0, 1), -91304);
            is(x.read(0, 22), 91304);
            is(floats(100000, NONE, 100000).read(0, 1), 100000);
        });
        says("or as the nearest one, if there is just one side.", () -> {
            all(readings(floats(NONE, NONE, 7, 8), 0, 4), 7, 7, 7, 8);
            all(readings(floats(7, 8, NONE, NONE), 0, 4), 7, 8, 8, 8);
            all(readings(floats(NONE, -7, NONE), 0, 3), -7, -7, -7);
            all(readings(floats(NONE, NONE), 0, 2), KIND, KIND);
            all(readings(floats(NONE), 0, 1), KIND);
        });
        says("FINDINGS: NOTHING: a SURVEY is MISSING;", () -> {
            LineMaking x = floats(1);
            is(x.note(1, 0, 1), NOTHING);
            is(x.read(1, 0), NOTHING);
            is(x.copy(0, 0, 1, 0, 1), NOTHING);
            is(x.copy(1, 0, 0, 0, 1), NOTHING);
            x.survey(0, -1, 0);
            is(x.read(0, 0), NOTHING);
        });
        says("INDEX: there is no such place;", () -> {
            LineMaking x = floats(1, 2);
            for (int place : new int[] {-1, 2, LOW, HIGH}) {
                is(x.note(0, place, 1), INDEX);
                is(x.read(0, place), INDEX);
                is(x.copy(0, place, 0, 0, 1), INDEX);
                is(x.copy(0, 0, 0, place, 1), INDEX);
            }
        });
        says("SIZE: a number of places is below 0;", () -> {
            LineMaking x = floats(1);
            is(x.survey(0, 0, -1), SIZE);
            is(x.survey(0, 1, LOW), SIZE);
            is(x.read(0, 0), 1);
        });
        says("KIND: it is none (of a KIND, a number).", () -> {
            LineMaking x = floats(NONE);
            is(x.read(0, 0), KIND);
            x.survey(1, 1, 1);
            is(x.note(1, 0, NONE), KIND);
            is(x.copy(0, 0, 1, 0, 1), KIND);
            x.work(1, 0, 1);
            is(x.as(0, 2), KIND);
        });
    }

    private static void images() {
        says("AN IMAGE keeps all but SURVEYS, numbers that wait, THE TAPE; all can become as it is (again and again).", () -> {
            LineMaking x = new LineMaking();
            x.run(3);
            is(x.keep(), 3);
            for (int turn = 1; turn <= 3; turn++) {
                x.survey(0, 1, turn);
                x.tell(turn);
                x.feed(turn, turn, turn);
                x.run(60);
                x.call(turn);
                x.work(0, 0, turn);
                is(x.back(), 3);
                is(x.count(14), 3);
                is(x.count(10), 0);
                is(x.count(1), 0);
                is(x.read(0, turn - 1), 0);
                is(x.count(12), turn);
                is(x.count(13), 12 * turn);
            }
            // The latest image counts.
            x.call(5);
            is(x.keep(), 3);
            x.call(5);
            x.back();
            is(x.count(10), 5);
        });
        says("THE DAYS TOLD: DONE of all WORKS together, and THE PURSE, behind each of n DAYS from THE IMAGE on (nobody doing anything).", () -> {
            LineMaking x = new LineMaking();
            manned(x, 0, 0, 9999, 5);
            manned(x, 0, 0, 9999, 10);
            x.due(1, 50);
            x.keep();
            // What is done now does not matter.
            x.call(7);
            x.goes(0, NONE);
            x.run(9);
            for (int v : new int[] {3, 0, 6, 50, 9, 50}) x.tell(v);
            is(x.check(3), 0);
            is(x.count(14), 9);
            for (int v : new int[] {3, 0, 6, 50, 9, 50}) x.tell(v);
            is(x.check(3), 0);
        });
    }
}
