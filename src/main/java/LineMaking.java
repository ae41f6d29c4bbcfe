import java.util.Arrays;

/** A line in the making: its ground, works, days, texts, claims, purse and surveys, told in whole numbers. */
public final class LineMaking {
    public static final int BAD = -1000000001, NO = -1000000002, FULL = -1000000003, NONE = -1000000005, NOTHING = -1000000011, KIND = -1000000012, INDEX = -1000000013, SIZE = -1000000014;

    private static final int LAST_DAY = 1999;
    private static final int MOST_SURVEYS = 4;
    private static final int MOST_WAITING = 60;
    private static final int MOST_YARDS = 9999;
    private static final int MOST_COINS = 99999;

    private final Making now;
    private final Making image;
    /** A third one, so that days can be told from the image without touching it. */
    private final Making trial;
    private final Tape tape;
    private final Survey[] surveys;
    private final int[] waiting;
    private int waitingCount;
    private boolean hasImage;

    public LineMaking() {
        now = new Making();
        image = new Making();
        trial = new Making();
        tape = new Tape();
        surveys = new Survey[MOST_SURVEYS];
        for (int i = 0; i < MOST_SURVEYS; i++) {
            surveys[i] = new Survey();
        }
        waiting = new int[MOST_WAITING];
        waitingCount = 0;
        hasImage = false;
    }

    // ---- the line

    public int chains(int n) {
        if (!inside(n, 2, Ground.MOST)) {
            return BAD;
        }
        if (now.works.count > 0) {
            return NO;
        }
        int before = now.ground.count;
        now.ground.begin(n);
        return before;
    }

    public int set(int chain, int what, int v) {
        if (!now.ground.has(chain) || !inside(what, 0, 2) || !inside(v, 0, what == 2 ? 3 : Ground.HIGHEST)) {
            return BAD;
        }
        return exchange(now.ground.rowOf(what), chain, v);
    }

    public int bore(int chain) {
        if (!now.ground.has(chain)) {
            return BAD;
        }
        now.ground.bored |= 1 << chain;
        return now.ground.stratumOf(chain);
    }

    public int at(int chain, int what) {
        if (!now.ground.has(chain)) {
            return BAD;
        }
        switch (what) {
            case 0:
            case 1:
                return now.ground.rowOf(what)[chain];
            case 2:
                return hasBit(now.ground.bored, chain) ? now.ground.stratumOf(chain) : NONE;
            case 3:
                return now.ground.depthOf(chain);
            case 4:
                return now.works.howManyAt(chain);
            case 5:
                return hasBit(now.works.chainsWith(Work.SLIP, 0), chain) ? 1 : 0;
            default:
                return BAD;
        }
    }

    public int rule(int what, int v) {
        if (!inside(what, 0, Ground.TERM) || !inside(v, 0, Ground.HIGHEST_RULES[what])) {
            return BAD;
        }
        return exchange(now.ground.ruleRow, what, v);
    }

    public int steep() {
        return now.ground.steepPairs();
    }

    public int best(int chain) {
        if (chain != -1 && !now.ground.has(chain)) {
            return BAD;
        }
        int cost = now.ground.findBestLevels();
        return chain == -1 ? cost : now.ground.bestLevel[chain];
    }

    public int lay() {
        int cost = now.ground.findBestLevels();
        System.arraycopy(now.ground.bestLevel, 0, now.ground.level, 0, now.ground.count);
        return cost;
    }

    public int haul() {
        return now.ground.haulCost();
    }

    // ---- works, gangs, days

    public int work(int kind, int chain, int yards) {
        if (!inside(kind, 0, Work.LAST_KIND) || kind == Work.SLIP) {
            return BAD;
        }
        if (!now.ground.has(chain) || !inside(yards, 1, MOST_YARDS)) {
            return BAD;
        }
        return now.works.addWork(kind, chain, yards);
    }

    public int told(int work, int what) {
        Work one = now.works.numbered(work);
        if (one == null || !inside(what, 0, 12)) {
            return BAD;
        }
        int stratum = now.ground.stratumOf(one.chain);
        switch (what) {
            case 4:
                return now.works.gangAt(work);
            case 7:
                return one.rateIn(stratum, now.wetOn(now.day));
            case 8:
                return one.worthIn(stratum);
            default:
                return one.toldOf(what);
        }
    }

    public int as(int work, int kind) {
        Work one = now.works.numbered(work);
        if (one == null || !inside(kind, 0, Work.LAST_KIND)) {
            return BAD;
        }
        return Work.isUnder(one.kind, kind) ? one.yards : KIND;
    }

    public int ahead(int work, int set) {
        Work one = now.works.numbered(work);
        if (one == null || !inside(set, 0, Works.ALL_BITS)) {
            return BAD;
        }
        int before = one.ahead;
        one.ahead = set;
        return before;
    }

    public int days(int work, int v) {
        Work one = now.works.numbered(work);
        if (one == null || !inside(v, 1, 99)) {
            return BAD;
        }
        int before = one.days;
        one.days = v;
        return before;
    }

    public int gang(int hands) {
        return inside(hands, 1, 99) ? now.works.addGang(hands) : BAD;
    }

    public int goes(int gang, int work) {
        if (!inside(gang, 0, now.works.gangs - 1)) {
            return BAD;
        }
        if (work != NONE && now.works.numbered(work) == null) {
            return BAD;
        }
        int there = work == NONE ? NONE : now.works.gangAt(work);
        if (there != NONE && there != gang) {
            return NO;
        }
        return exchange(now.works.gangPlace, gang, work);
    }

    public int wet(int day, int v) {
        if (!inside(day, 0, LAST_DAY) || !inside(v, 0, 9)) {
            return BAD;
        }
        return exchange(now.wetness, day, v);
    }

    public int run(int n) {
        if (!inside(n, 1, 60)) {
            return BAD;
        }
        if (now.day + n > LAST_DAY) {
            return FULL;
        }
        for (int i = 0; i < n; i++) {
            now.passDay();
        }
        return now.day;
    }

    public int foretold() {
        int cuts = now.works.chainsWith(Work.CUT, 0) & ~now.works.chainsWith(Work.SLIP, 0);
        return cuts & now.ground.bored & now.ground.tooDeepChains();
    }

    // ---- texts

    public int feed(int a, int b, int c) {
        if (tape.length + 12 > Tape.MOST) {
            return FULL;
        }
        tape.takeFour(a);
        tape.takeFour(b);
        tape.takeFour(c);
        return tape.length;
    }

    public int trim(int n) {
        if (!inside(n, 0, tape.length)) {
            return BAD;
        }
        tape.length = n;
        return n;
    }

    public int text(int day) {
        boolean isDay = inside(day, 0, LAST_DAY);
        Text made = isDay ? tape.translate(day) : null;
        tape.length = 0;
        if (!isDay) {
            return BAD;
        }
        return made == null ? -100 - tape.fault : now.texts.addText(made);
    }

    public int of(int text, int what) {
        Text one = now.texts.numbered(text);
        if (one == null) {
            return BAD;
        }
        switch (what) {
            case 0:
                return one.key;
            case 1:
                return one.day;
            case 2:
                return one.parts;
            default:
                return BAD;
        }
    }

    public int why(int key) {
        return inside(key, 0, Text.CLAIM) ? now.texts.counting(key, now.day) : BAD;
    }

    public int rules(int key, int a, int b, int c) {
        return inside(key, 0, Text.CLAIM) ? now.texts.ruling(key, now.day, a, b, c) : BAD;
    }

    public int price(int work) {
        Work one = now.works.numbered(work);
        return one == null ? BAD : now.priceOf(one);
    }

    // ---- measures, claims, the purse

    public int measure(int work, int hand, int v) {
        Work one = now.works.numbered(work);
        if (one == null || !inside(hand, 0, 1) || !inside(v, 0, MOST_YARDS)) {
            return BAD;
        }
        return exchange(one.measured, hand, v);
    }

    public int quarrels() {
        return now.works.howManyQuarrel();
    }

    public int claim(int from, int to, int cause) {
        if (!inside(from, 0, LAST_DAY) || !inside(to, from, LAST_DAY) || !inside(cause, 0, Claims.CAUSES - 1)) {
            return BAD;
        }
        return now.claims.addClaim(from, to, cause);
    }

    public int given(int claim) {
        if (!inside(claim, 0, now.claims.count - 1)) {
            return BAD;
        }
        return now.givenDays(claim, claim);
    }

    public int late(int day) {
        if (!inside(day, 0, 9999)) {
            return BAD;
        }
        int behind = day - now.ground.ruleRow[Ground.TERM] - now.givenDays(0, now.claims.count - 1);
        return now.texts.ruling(Text.LATE, now.day, Math.max(0, behind), 0, 0);
    }

    public int call(int coins) {
        if (!inside(coins, 1, MOST_COINS)) {
            return BAD;
        }
        now.purse.coins += coins;
        return now.purse.coins;
    }

    public int due(int day, int coins) {
        if (!inside(day, now.day, LAST_DAY) || !inside(coins, -MOST_COINS, MOST_COINS)) {
            return BAD;
        }
        return now.purse.addDue(day, coins);
    }

    public int out() {
        return now.purse.runsOut(now.day);
    }

    // ---- faces, arches, what waits

    public int face(int day, int yards) {
        if (!inside(day, 0, LAST_DAY) || !inside(yards, 1, 99)) {
            return BAD;
        }
        return now.masonry.addFace(day, yards);
    }

    public int meets(int length) {
        return inside(length, 1, MOST_YARDS) ? now.masonry.meetingDay(length) : BAD;
    }

    public int arch(int thrust) {
        return inside(thrust, 1, 9) ? now.masonry.addArch(thrust) : BAD;
    }

    public int order(int p, int i) {
        if (!inside(p, 0, 9) || i < 0) {
            return BAD;
        }
        return now.masonry.archInOrder(p, i);
    }

    public int through(int work) {
        return now.works.numbered(work) == null ? BAD : now.works.endOf(work);
    }

    public int chain(int work, int i) {
        if (now.works.numbered(work) == null || i < 0) {
            return BAD;
        }
        return now.works.inChain(work, i);
    }

    // ---- surveys

    public int survey(int survey, int sort, int n) {
        Survey one = surveyNumbered(survey);
        if (one == null || !inside(sort, Survey.MISSING, Survey.SHORTS)) {
            return BAD;
        }
        if (sort == Survey.MISSING) {
            one.begin(sort, 0);
            return 0;
        }
        if (n > Survey.MOST) {
            return BAD;
        }
        if (n < 0) {
            return SIZE;
        }
        one.begin(sort, n);
        return n;
    }

    public int note(int survey, int place, int v) {
        Survey one = surveyNumbered(survey);
        if (one == null) {
            return BAD;
        }
        int finding = one.findingAt(place);
        return finding == 0 ? one.write(place, v) : finding;
    }

    public int read(int survey, int place) {
        Survey one = surveyNumbered(survey);
        if (one == null) {
            return BAD;
        }
        int finding = one.findingAt(place);
        return finding == 0 ? one.valueAt(place) : finding;
    }

    public int copy(int from, int place, int to, int at, int many) {
        Survey source = surveyNumbered(from);
        Survey target = surveyNumbered(to);
        if (source == null || target == null) {
            return BAD;
        }
        if (source.sort == Survey.MISSING || target.sort == Survey.MISSING) {
            return NOTHING;
        }
        if (source.sort != target.sort) {
            return KIND;
        }
        if (!source.hasRun(place, many) || !target.hasRun(at, many)) {
            return INDEX;
        }
        System.arraycopy(source.places, place, target.places, at, many);
        return many;
    }

    // ---- rows, images

    public int tell(int v) {
        if (waitingCount >= MOST_WAITING) {
            return FULL;
        }
        waiting[waitingCount] = v;
        waitingCount++;
        return waitingCount;
    }

    public int check(int n) {
        int toldCount = waitingCount;
        waitingCount = 0;
        if (!inside(n, 1, MOST_WAITING / 2)) {
            return BAD;
        }
        if (!hasImage) {
            return NO;
        }
        int right = rightNumbers(n, toldCount);
        return right == 2 * n && toldCount == right ? 0 : 1 + right;
    }

    public int keep() {
        image.takeFrom(now);
        hasImage = true;
        return now.day;
    }

    public int back() {
        if (!hasImage) {
            return NO;
        }
        now.takeFrom(image);
        return now.day;
    }

    public int count(int what) {
        switch (what) {
            case 10:
                return now.purse.coins;
            case 11:
                return now.purse.retained;
            case 12:
                return waitingCount;
            case 13:
                return tape.length;
            case 14:
                return now.day;
            default:
                return now.howMany(what);
        }
    }

    // ---- what the calls share

    private static boolean inside(int v, int low, int high) {
        return v >= low && v <= high;
    }

    private static boolean hasBit(int bits, int i) {
        return (bits >> i & 1) != 0;
    }

    private static int clamp(int v, int low, int high) {
        return Math.max(low, Math.min(high, v));
    }

    /** Puts v at a place of the row and answers what stood there. */
    private static int exchange(int[] row, int place, int v) {
        if (place < 0 || place >= row.length) {
            return BAD;
        }
        int before = row[place];
        row[place] = v;
        return before;
    }

    private Survey surveyNumbered(int survey) {
        return inside(survey, 0, MOST_SURVEYS - 1) ? surveys[survey] : null;
    }

    /** How many of the first told numbers are as the n days from the image on tell them. */
    private int rightNumbers(int n, int toldCount) {
        trial.takeFrom(image);
        int right = 0;
        for (int i = 0; i < n; i++) {
            trial.passDay();
            if (right >= toldCount || waiting[right] != trial.works.doneTogether()) {
                return right;
            }
            right++;
            if (right >= toldCount || waiting[right] != trial.purse.coins) {
                return right;
            }
            right++;
        }
        return right;
    }

    /** All that an image keeps. */
    private static final class Making {
        final Ground ground = new Ground();
        final Works works = new Works();
        final Texts texts = new Texts();
        final Claims claims = new Claims();
        final Purse purse = new Purse();
        final Masonry masonry = new Masonry();
        final int[] wetness = new int[LAST_DAY + 1];
        int day;

        void takeFrom(Making other) {
            ground.takeFrom(other.ground);
            works.takeFrom(other.works);
            texts.takeFrom(other.texts);
            claims.takeFrom(other.claims);
            purse.takeFrom(other.purse);
            masonry.takeFrom(other.masonry);
            System.arraycopy(other.wetness, 0, wetness, 0, wetness.length);
            day = other.day;
        }

        int wetOn(int someDay) {
            return inside(someDay, 0, LAST_DAY) ? wetness[someDay] : 0;
        }

        void passDay() {
            works.labour(ground, wetOn(day));
            works.slipWhereSteep(ground, wetOn(day));
            purse.coins += purse.duesOn(day);
            if ((day + 1) % 28 == 0) {
                pay();
            }
            day++;
        }

        private void pay() {
            for (int i = 0; i < works.count; i++) {
                Work one = works.all[i];
                int yards = Math.max(0, one.joined() - one.paid);
                int coins = yards * priceOf(one);
                int hundredths = texts.ruling(Text.RETAIN, day, one.kind, one.yards, 0);
                int retained = coins * hundredths / 100;
                purse.coins -= coins - retained;
                purse.retained += retained;
                one.paid += yards;
            }
        }

        int priceOf(Work one) {
            int worth = one.worthIn(ground.stratumOf(one.chain));
            return texts.ruling(Text.PRICE, day, one.kind, ground.depthOf(one.chain), worth);
        }

        /** The days that the claims from the first to the last of these numbers are given together. */
        int givenDays(int first, int last) {
            for (int cause = 0; cause < Claims.CAUSES; cause++) {
                for (int wet = 0; wet < Claims.WETS; wet++) {
                    claims.grants[cause * Claims.WETS + wet] = texts.ruling(Text.CLAIM, day, cause, wet, 0);
                }
            }
            return claims.daysGiven(first, last, wetness);
        }

        int howMany(int what) {
            switch (what) {
                case 0:
                    return ground.count;
                case 1:
                    return works.count;
                case 2:
                    return Integer.bitCount(works.throughBits());
                case 3:
                    return works.howManySlips();
                case 4:
                    return works.gangs;
                case 5:
                    return texts.count;
                case 6:
                    return claims.count;
                case 7:
                    return purse.count;
                case 8:
                    return masonry.faces;
                case 9:
                    return masonry.arches;
                default:
                    return BAD;
            }
        }
    }

    /** The chains and the rules told of them. */
    private static final class Ground {
        static final int MOST = 24, HIGHEST = 99;
        static final int SLOPE = 0, CUTS = 1, FILLS = 2, BORROWED = 3, SPOILT = 4, TERM = 5;
        static final int[] HIGHEST_RULES = {9, 9, 9, 99, 99, 1999};
        private static final int CLAY = 2;
        private static final int[] STANDS = {99, 20, 8, 12};
        /** Prices of a yard go from what spoiling saves, below 0, to what borrowing costs: 199 of them. */
        private static final int MOST_PLACES = 2 * HIGHEST + 1;

        int count;
        final int[] surface = new int[MOST];
        final int[] level = new int[MOST];
        final int[] stratum = new int[MOST];
        int bored;
        final int[] ruleRow = {2, 2, 3, 9, 5, 999};
        final int[] bestLevel = new int[MOST];
        private final int[] least = new int[MOST_PLACES];
        private final int[] leastBehind = new int[MOST_PLACES];
        private final int[] firstBest = new int[MOST];

        Ground() {
            begin(8);
        }

        void begin(int n) {
            count = clamp(n, 0, MOST);
            for (int i = 0; i < MOST; i++) {
                surface[i] = 50;
                level[i] = 50;
                stratum[i] = 0;
            }
            bored = 0;
        }

        void takeFrom(Ground other) {
            count = other.count;
            System.arraycopy(other.surface, 0, surface, 0, MOST);
            System.arraycopy(other.level, 0, level, 0, MOST);
            System.arraycopy(other.stratum, 0, stratum, 0, MOST);
            bored = other.bored;
            System.arraycopy(other.ruleRow, 0, ruleRow, 0, ruleRow.length);
        }

        boolean has(int chain) {
            return chain >= 0 && chain < count;
        }

        int[] rowOf(int what) {
            if (what == 0) {
                return surface;
            }
            return what == 1 ? level : stratum;
        }

        int stratumOf(int chain) {
            return has(chain) ? stratum[chain] : 0;
        }

        int depthOf(int chain) {
            return has(chain) ? surface[chain] - level[chain] : 0;
        }

        int tooDeepChains() {
            int bits = 0;
            for (int i = 0; i < count; i++) {
                if (depthOf(i) > depthThatStands(i)) {
                    bits |= 1 << i;
                }
            }
            return bits;
        }

        private int depthThatStands(int chain) {
            int kind = stratumOf(chain);
            return inside(kind, 0, STANDS.length - 1) ? STANDS[kind] : HIGHEST;
        }

        boolean isSoaked(int chain, int wet) {
            return wet > (stratumOf(chain) == CLAY ? 4 : 6);
        }

        int steepPairs() {
            int pairs = 0;
            for (int i = 1; i < count; i++) {
                if (Math.abs(level[i] - level[i - 1]) > ruleRow[SLOPE]) {
                    pairs++;
                }
            }
            return pairs;
        }

        int findBestLevels() {
            int slope = ruleRow[SLOPE];
            int cost = leastCost(HIGHEST + 1, slope, false);
            for (int i = 0; i < count; i++) {
                bestLevel[i] = i == 0 ? firstBest[0] : clamp(firstBest[i], bestLevel[i - 1] - slope, bestLevel[i - 1] + slope);
            }
            return cost;
        }

        /*
         * The least cost of the haul is the most that prices of a yard at each chain can earn, if prices of
         * chains beside one another differ by 1 at most, and none pays to borrow or to spoil more than needed
         * (the dual of the flow). So prices are sought as levels are, with the slope 1.
         */
        int haulCost() {
            return -leastCost(ruleRow[SPOILT] + ruleRow[BORROWED] + 1, 1, true);
        }

        /*
         * From the last chain to the first: least[p] is the least cost of this chain at place p and of all
         * behind it. It is convex in p, so within reach of p the first best place of the next chain is
         * the one nearest to that chain's first best place of all: no search is needed.
         */
        private int leastCost(int places, int slope, boolean ofHaul) {
            for (int chain = count - 1; chain >= 0; chain--) {
                System.arraycopy(least, 0, leastBehind, 0, MOST_PLACES);
                int first = 0;
                for (int p = 0; p < places && p < MOST_PLACES; p++) {
                    least[p] = ofHaul ? haulCostAt(chain, p) : levelCostAt(chain, p);
                    if (chain + 1 < count) {
                        int next = clamp(firstBest[chain + 1], p - slope, p + slope);
                        least[p] += leastBehind[clamp(next, 0, MOST_PLACES - 1)];
                    }
                    if (least[p] < least[first]) {
                        first = p;
                    }
                }
                firstBest[chain] = first;
            }
            return least[clamp(firstBest[0], 0, MOST_PLACES - 1)];
        }

        private int levelCostAt(int chain, int place) {
            int above = surface[chain] - place;
            return above > 0 ? ruleRow[CUTS] * above : ruleRow[FILLS] * -above;
        }

        private int haulCostAt(int chain, int place) {
            return depthOf(chain) * (place - ruleRow[SPOILT]);
        }
    }

    /** One work. */
    private static final class Work {
        static final int CUT = 1, BANK = 2, TUNNEL = 3, BRIDGE = 4, SLIP = 5, WAY = 6, LAST_KIND = 6;
        private static final int[] KIND_ABOVE = {-1, 0, 0, 1, 0, 1, 0};
        private static final int[] CUT_RATES = {1, 3, 2, 3};
        private static final int CLAY = 2, PLAIN_RATE = 2, PLAIN_WORTH = 5;

        int kind, chain, yards, done, ahead, days, paid;
        final int[] measured = new int[2];

        void begin(int ofKind, int atChain, int yardsToDo) {
            kind = ofKind;
            chain = atChain;
            yards = yardsToDo;
            done = 0;
            ahead = 0;
            days = 1;
            paid = 0;
            measured[0] = 0;
            measured[1] = 0;
        }

        void takeFrom(Work other) {
            begin(other.kind, other.chain, other.yards);
            done = other.done;
            ahead = other.ahead;
            days = other.days;
            paid = other.paid;
            measured[0] = other.measured[0];
            measured[1] = other.measured[1];
        }

        static boolean isUnder(int kind, int other) {
            int up = kind;
            for (int i = 0; i < KIND_ABOVE.length && inside(up, 0, LAST_KIND); i++) {
                if (up == other) {
                    return true;
                }
                up = KIND_ABOVE[up];
            }
            return false;
        }

        int rateIn(int stratum, int wet) {
            switch (kind) {
                case CUT:
                    return cutRate(stratum, wet);
                case BANK:
                    return wet > 4 ? PLAIN_RATE - 1 : PLAIN_RATE;
                case TUNNEL:
                    return (cutRate(stratum, wet) + 1) / 2;
                case BRIDGE:
                    return wet > 7 ? 0 : 1;
                case SLIP:
                    return cutRate(stratum, wet) + 1;
                case WAY:
                    return 2 * PLAIN_RATE;
                default:
                    return PLAIN_RATE;
            }
        }

        private static int cutRate(int stratum, int wet) {
            if (!inside(stratum, 0, CUT_RATES.length - 1) || stratum == CLAY && wet > 6) {
                return 0;
            }
            return CUT_RATES[stratum];
        }

        int worthIn(int stratum) {
            int cutWorth = stratum == 0 ? PLAIN_WORTH + 5 : PLAIN_WORTH;
            switch (kind) {
                case CUT:
                    return cutWorth;
                case TUNNEL:
                    return 4 * cutWorth;
                case BRIDGE:
                    return 9;
                case SLIP:
                    return cutWorth / 2;
                case WAY:
                    return 2;
                default:
                    return PLAIN_WORTH;
            }
        }

        int joined() {
            return Math.min(done, Math.min(measured[0], measured[1]));
        }

        boolean isThrough() {
            return done == yards;
        }

        int toldOf(int what) {
            switch (what) {
                case 0:
                    return kind;
                case 1:
                    return chain;
                case 2:
                    return yards;
                case 3:
                    return done;
                case 5:
                    return ahead;
                case 6:
                    return days;
                case 9:
                    return measured[0];
                case 10:
                    return measured[1];
                case 11:
                    return joined();
                case 12:
                    return paid;
                default:
                    return BAD;
            }
        }
    }

    /** The works, the gangs at them, and what waits for what. */
    private static final class Works {
        static final int MOST = 24, ALL_BITS = (1 << MOST) - 1;
        private static final int MOST_GANGS = 8;

        final Work[] all = new Work[MOST];
        int count;
        final int[] gangHands = new int[MOST_GANGS];
        final int[] gangPlace = new int[MOST_GANGS];
        int gangs;
        private final int[] ends = new int[MOST];

        Works() {
            for (int i = 0; i < MOST; i++) {
                all[i] = new Work();
            }
        }

        void takeFrom(Works other) {
            count = other.count;
            for (int i = 0; i < count; i++) {
                all[i].takeFrom(other.all[i]);
            }
            gangs = other.gangs;
            System.arraycopy(other.gangHands, 0, gangHands, 0, MOST_GANGS);
            System.arraycopy(other.gangPlace, 0, gangPlace, 0, MOST_GANGS);
        }

        Work numbered(int work) {
            return inside(work, 0, count - 1) ? all[work] : null;
        }

        int addWork(int kind, int chain, int yards) {
            if (count >= MOST) {
                return FULL;
            }
            all[count].begin(kind, chain, yards);
            count++;
            return count - 1;
        }

        int addGang(int hands) {
            if (gangs >= MOST_GANGS) {
                return FULL;
            }
            gangHands[gangs] = hands;
            gangPlace[gangs] = NONE;
            gangs++;
            return gangs - 1;
        }

        int gangAt(int work) {
            for (int g = 0; g < gangs; g++) {
                if (gangPlace[g] == work) {
                    return g;
                }
            }
            return NONE;
        }

        int howManyAt(int chain) {
            int many = 0;
            for (int i = 0; i < count; i++) {
                many += all[i].chain == chain ? 1 : 0;
            }
            return many;
        }

        int howManySlips() {
            int many = 0;
            for (int i = 0; i < count; i++) {
                many += all[i].kind == Work.SLIP ? 1 : 0;
            }
            return many;
        }

        int howManyQuarrel() {
            int many = 0;
            for (int i = 0; i < count; i++) {
                many += all[i].measured[0] != all[i].measured[1] ? 1 : 0;
            }
            return many;
        }

        int doneTogether() {
            int sum = 0;
            for (int i = 0; i < count; i++) {
                sum += all[i].done;
            }
            return sum;
        }

        /** The chains, as bits, with a work of this kind itself that has so much done. */
        int chainsWith(int kind, int leastDone) {
            int bits = 0;
            for (int i = 0; i < count; i++) {
                if (all[i].kind == kind && all[i].done >= leastDone) {
                    bits |= 1 << all[i].chain;
                }
            }
            return bits;
        }

        int throughBits() {
            int bits = 0;
            for (int i = 0; i < count; i++) {
                if (all[i].isThrough()) {
                    bits |= 1 << i;
                }
            }
            return bits;
        }

        void labour(Ground ground, int wet) {
            for (int g = 0; g < gangs; g++) {
                Work one = numbered(gangPlace[g]);
                // Asked anew for each gang: one ahead of it may have come through on this very day.
                if (one != null && (one.ahead & ~throughBits()) == 0) {
                    int rate = one.rateIn(ground.stratumOf(one.chain), wet);
                    one.done = Math.min(one.yards, one.done + gangHands[g] * rate / 10);
                }
            }
        }

        void slipWhereSteep(Ground ground, int wet) {
            int ripe = chainsWith(Work.CUT, 1) & ~chainsWith(Work.SLIP, 0) & ground.tooDeepChains();
            for (int chain = 0; chain < ground.count; chain++) {
                if (hasBit(ripe, chain) && ground.isSoaked(chain, wet)) {
                    addWork(Work.SLIP, chain, ground.depthOf(chain));
                }
            }
        }

        int endOf(int work) {
            findEnds();
            return inside(work, 0, count - 1) ? ends[work] : NONE;
        }

        /** Each round settles at least one work more, or no other can be settled. */
        private void findEnds() {
            Arrays.fill(ends, NONE);
            int settled = 0;
            for (int round = 0; round < count; round++) {
                for (int i = 0; i < count; i++) {
                    if (!hasBit(settled, i) && (all[i].ahead & ~settled) == 0) {
                        int latest = latestOf(all[i].ahead);
                        ends[i] = all[i].days + (latest == NONE ? 0 : ends[latest]);
                        settled |= 1 << i;
                    }
                }
            }
        }

        private int latestOf(int bits) {
            int latest = NONE;
            for (int i = 0; i < count; i++) {
                if (hasBit(bits, i) && (latest == NONE || ends[i] > ends[latest])) {
                    latest = i;
                }
            }
            return latest;
        }

        int inChain(int work, int i) {
            // A chain names no work twice, so none is longer than there are works.
            if (endOf(work) == NONE || i >= count) {
                return NONE;
            }
            int number = work;
            for (int step = 0; step < i; step++) {
                Work one = numbered(number);
                number = one == null ? NONE : latestOf(one.ahead);
            }
            return number;
        }
    }

    /** A text as it was read: never changed, so that images can share it. */
    private static final class Text {
        static final int PRICE = 0, RETAIN = 1, LATE = 2, CLAIM = 3;
        /** Codes: a number itself, a name's place from here on, a sign's byte below 0. */
        static final int FIRST_NAME = 10000;

        final int key, day, parts;
        private final int[] code;

        Text(int key, int day, int parts, int[] code) {
            this.key = key;
            this.day = day;
            this.parts = parts;
            this.code = code;
        }

        int valueFor(int a, int b, int c, int[] stack) {
            int top = 0;
            for (int i = 0; i < code.length && top < stack.length; i++) {
                int step = code[i];
                if (step >= FIRST_NAME) {
                    stack[top] = step == FIRST_NAME ? a : step == FIRST_NAME + 1 ? b : c;
                    top++;
                } else if (step >= 0) {
                    stack[top] = step;
                    top++;
                } else if (step == -'!' && top >= 1) {
                    stack[top - 1] = stack[top - 1] == 0 ? 1 : 0;
                } else if (top >= 2) {
                    top--;
                    stack[top - 1] = joinBy(-step, stack[top - 1], stack[top]);
                }
            }
            return top >= 1 ? stack[0] : 0;
        }

        private static int joinBy(int sign, int x, int y) {
            switch (sign) {
                case '*':
                    return x * y;
                case '/':
                    return y == 0 ? 0 : x / y;
                case '+':
                    return x + y;
                case '-':
                    return x - y;
                case '<':
                    return x < y ? 1 : 0;
                case '=':
                    return x == y ? 1 : 0;
                case '>':
                    return x > y ? 1 : 0;
                case '&':
                    return x != 0 && y != 0 ? 1 : 0;
                default:
                    return x != 0 || y != 0 ? 1 : 0;
            }
        }
    }

    /** The texts, and the rules that they give. */
    private static final class Texts {
        private static final int MOST = 14;
        private static final int[] HIGHEST_HELD = {999, 100, 99999};

        private final Text[] all = new Text[MOST];
        int count;
        private final int[] stack = new int[Tape.MOST];

        void takeFrom(Texts other) {
            count = other.count;
            for (int i = 0; i < count; i++) {
                all[i] = other.all[i];
            }
        }

        Text numbered(int text) {
            return inside(text, 0, count - 1) ? all[text] : null;
        }

        int addText(Text text) {
            if (count >= MOST) {
                return FULL;
            }
            all[count] = text;
            count++;
            return count - 1;
        }

        int counting(int key, int day) {
            int found = NONE;
            int foundDay = -1;
            for (int i = 0; i < count; i++) {
                Text one = all[i];
                if (one != null && one.key == key && inside(one.day, foundDay, day)) {
                    found = i;
                    foundDay = one.day;
                }
            }
            return found;
        }

        int ruling(int key, int day, int a, int b, int c) {
            Text one = numbered(counting(key, day));
            int value = one == null ? valueWithout(key, a, b, c) : one.valueFor(a, b, c, stack);
            return inside(key, 0, HIGHEST_HELD.length - 1) ? clamp(value, 0, HIGHEST_HELD[key]) : value;
        }

        private static int valueWithout(int key, int a, int b, int c) {
            switch (key) {
                case Text.PRICE:
                    return c;
                case Text.RETAIN:
                    return 10;
                case Text.LATE:
                    return 10 * a;
                default:
                    return b > 4 ? 1 : 0;
            }
        }
    }

    /** The tape, and how a text is read from it: by one pass, signs waiting on a stack for what binds closer. */
    private static final class Tape {
        static final int MOST = 96;
        private static final int MOST_OPEN = 8, MOST_DIGITS = 4;

        private final int[] bytes = new int[MOST];
        int length;
        int fault;
        private final int[] code = new int[MOST];
        private int coded;
        private final int[] signs = new int[MOST];
        private int signCount;
        private int key, parts, openBrackets, openNots;
        private boolean wantsPart;

        void takeFour(int number) {
            for (int shift = 24; shift >= 0 && length < MOST; shift -= 8) {
                bytes[length] = number >> shift & 255;
                length++;
            }
        }

        /** The text on the tape; null, and its fault, if there is none. */
        Text translate(int day) {
            coded = 0;
            signCount = 0;
            parts = 0;
            openBrackets = 0;
            openNots = 0;
            wantsPart = true;
            int start = behindBlanks(0);
            int end = endOfWord(start);
            key = keyOf(start, end);
            fault = key < 0 ? start : firstFault(end);
            return fault >= 0 ? null : new Text(key, day, parts, Arrays.copyOf(code, coded));
        }

        /** Takes what stands behind the key; -1: there is no fault. */
        private int firstFault(int keyEnd) {
            for (int i = keyEnd; i < length; i++) {
                if (bytes[i] == ' ') {
                    continue;
                }
                int end = endOfWord(i);
                boolean touches = isWordByte(i) && isWordByte(i - 1);
                if (touches || !(wantsPart ? takesPart(i, end) : takesSign(bytes[i]))) {
                    return i;
                }
                // A word is taken whole.
                i = Math.max(i, end - 1);
            }
            if (wantsPart || openBrackets > 0) {
                return length;
            }
            settleFrom(1);
            return -1;
        }

        private int behindBlanks(int place) {
            int next = place;
            while (next < length && bytes[next] == ' ') {
                next++;
            }
            return next;
        }

        /** Behind the word that starts there, or behind the one byte of a sign. */
        private int endOfWord(int start) {
            int end = start + 1;
            while (end < length && (isLetter(start) && isLetter(end) || isDigit(start) && isDigit(end))) {
                end++;
            }
            return end;
        }

        private boolean isLetter(int place) {
            return inside(place, 0, length - 1) && inside(bytes[place], 'a', 'z');
        }

        private boolean isDigit(int place) {
            return inside(place, 0, length - 1) && inside(bytes[place], '0', '9');
        }

        private boolean isWordByte(int place) {
            return isLetter(place) || isDigit(place);
        }

        private int keyOf(int start, int end) {
            if (stands("price", start, end)) {
                return Text.PRICE;
            }
            if (stands("retain", start, end)) {
                return Text.RETAIN;
            }
            if (stands("late", start, end)) {
                return Text.LATE;
            }
            return stands("claim", start, end) ? Text.CLAIM : -1;
        }

        private boolean stands(String word, int start, int end) {
            if (end > length || end - start != word.length()) {
                return false;
            }
            for (int i = 0; i < word.length(); i++) {
                if (bytes[start + i] != word.charAt(i)) {
                    return false;
                }
            }
            return true;
        }

        private String namesOfKey() {
            switch (key) {
                case Text.PRICE:
                    return "kdw";
                case Text.RETAIN:
                    return "ky";
                case Text.LATE:
                    return "n";
                default:
                    return "cw";
            }
        }

        private boolean takesPart(int start, int end) {
            if (isDigit(start)) {
                return takesNumber(start, end);
            }
            if (isLetter(start)) {
                int name = end - start == 1 ? namesOfKey().indexOf((char) bytes[start]) : -1;
                return name >= 0 && endsPart(Text.FIRST_NAME + name);
            }
            if (bytes[start] == '(' && openBrackets < MOST_OPEN) {
                openBrackets++;
                return pushSign('(');
            }
            if (bytes[start] == '!' && openNots < MOST_OPEN) {
                openNots++;
                return pushSign('!');
            }
            return false;
        }

        private boolean takesNumber(int start, int end) {
            if (end - start > MOST_DIGITS) {
                return false;
            }
            int number = 0;
            for (int i = start; i < end; i++) {
                number = number * 10 + bytes[i] - '0';
            }
            return endsPart(number);
        }

        private boolean endsPart(int codeOfPart) {
            parts++;
            emit(codeOfPart);
            settleNots();
            wantsPart = false;
            return true;
        }

        /** A sign behind a part. */
        private boolean takesSign(int sign) {
            if (sign == ')') {
                return closesBracket();
            }
            int rank = rankOf(sign);
            if (rank == 0) {
                return false;
            }
            settleFrom(rank + 1);
            if (rank == rankOf('=') && rankOf(topSign()) == rank) {
                return false;
            }
            settleFrom(rank);
            wantsPart = true;
            return pushSign(sign);
        }

        private boolean closesBracket() {
            if (openBrackets == 0) {
                return false;
            }
            settleFrom(1);
            signCount--;
            openBrackets--;
            settleNots();
            return true;
        }

        private void settleNots() {
            while (signCount > 0 && topSign() == '!') {
                emit(-'!');
                signCount--;
                openNots--;
            }
        }

        /** Signs on top of the stack that bind as close as this, or closer, have all their parts. */
        private void settleFrom(int rank) {
            while (signCount > 0 && rankOf(topSign()) >= rank) {
                emit(-topSign());
                signCount--;
            }
        }

        private int topSign() {
            return signCount > 0 ? signs[signCount - 1] : 0;
        }

        private boolean pushSign(int sign) {
            if (signCount >= MOST) {
                return false;
            }
            signs[signCount] = sign;
            signCount++;
            return true;
        }

        private void emit(int step) {
            if (coded < MOST) {
                code[coded] = step;
                coded++;
            }
        }

        private static int rankOf(int sign) {
            switch (sign) {
                case '|':
                    return 1;
                case '&':
                    return 2;
                case '<':
                case '=':
                case '>':
                    return 3;
                case '+':
                case '-':
                    return 4;
                case '*':
                case '/':
                    return 5;
                default:
                    return 0;
            }
        }
    }

    /** The claims, which part the days among themselves. */
    private static final class Claims {
        static final int CAUSES = 4, WETS = 10;
        private static final int MOST = 20, DAYS_A_ROW = 32;

        private final int[] from = new int[MOST];
        private final int[] to = new int[MOST];
        private final int[] cause = new int[MOST];
        int count;
        /** What the rule of claim gives for each cause and wet: few, while days are many. */
        final int[] grants = new int[CAUSES * WETS];
        /** The days that are given, as bits. */
        private final int[] taken = new int[LAST_DAY / DAYS_A_ROW + 1];

        void takeFrom(Claims other) {
            count = other.count;
            System.arraycopy(other.from, 0, from, 0, MOST);
            System.arraycopy(other.to, 0, to, 0, MOST);
            System.arraycopy(other.cause, 0, cause, 0, MOST);
        }

        int addClaim(int first, int last, int why) {
            if (count >= MOST) {
                return FULL;
            }
            from[count] = first;
            to[count] = last;
            cause[count] = why;
            count++;
            return count - 1;
        }

        int daysGiven(int first, int last, int[] wetness) {
            Arrays.fill(taken, 0);
            int days = 0;
            for (int i = 0; i <= last && i < count; i++) {
                int more = takeDays(i, wetness);
                days += i >= first ? more : 0;
            }
            return days;
        }

        private int takeDays(int claim, int[] wetness) {
            int days = 0;
            for (int d = from[claim]; d <= to[claim] && d < wetness.length; d++) {
                int row = d / DAYS_A_ROW;
                int bit = d % DAYS_A_ROW;
                if (row < taken.length && !hasBit(taken[row], bit) && isGranted(cause[claim], wetness[d])) {
                    taken[row] |= 1 << bit;
                    days++;
                }
            }
            return days;
        }

        private boolean isGranted(int why, int wet) {
            int place = why * WETS + wet;
            return inside(place, 0, grants.length - 1) && grants[place] != 0;
        }
    }

    /** The purse, what is retained, and the dues. */
    private static final class Purse {
        private static final int MOST = 20, DAYS_SEEN = 400;

        int coins, retained;
        private final int[] dueDay = new int[MOST];
        private final int[] dueCoins = new int[MOST];
        int count;

        void takeFrom(Purse other) {
            coins = other.coins;
            retained = other.retained;
            count = other.count;
            System.arraycopy(other.dueDay, 0, dueDay, 0, MOST);
            System.arraycopy(other.dueCoins, 0, dueCoins, 0, MOST);
        }

        int addDue(int day, int many) {
            if (count >= MOST) {
                return FULL;
            }
            dueDay[count] = day;
            dueCoins[count] = many;
            count++;
            return count - 1;
        }

        int duesOn(int day) {
            int sum = 0;
            for (int i = 0; i < count; i++) {
                sum += dueDay[i] == day ? dueCoins[i] : 0;
            }
            return sum;
        }

        int runsOut(int openDay) {
            int left = coins;
            for (int day = openDay; day < openDay + DAYS_SEEN; day++) {
                left += duesOn(day);
                if (left < 0) {
                    return day;
                }
            }
            return NONE;
        }
    }

    /** The faces of the tunnel, and the arches. */
    private static final class Masonry {
        private static final int MOST_FACES = 6, MOST_ARCHES = 8;
        /** Steps of 8192, 4096 .. 1 reach behind the last meeting: the greatest length by 1 yard a day from the last day on. */
        private static final int FIRST_STEP = 8192;

        private final int[] faceDay = new int[MOST_FACES];
        private final int[] faceYards = new int[MOST_FACES];
        int faces;
        private final int[] thrust = new int[MOST_ARCHES];
        int arches;
        /** Of each set of arches that stand: whether the others can follow (1) or not (0). */
        private final int[] canGoOn = new int[1 << MOST_ARCHES];

        void takeFrom(Masonry other) {
            faces = other.faces;
            System.arraycopy(other.faceDay, 0, faceDay, 0, MOST_FACES);
            System.arraycopy(other.faceYards, 0, faceYards, 0, MOST_FACES);
            arches = other.arches;
            System.arraycopy(other.thrust, 0, thrust, 0, MOST_ARCHES);
        }

        int addFace(int day, int yards) {
            if (faces >= MOST_FACES) {
                return FULL;
            }
            faceDay[faces] = day;
            faceYards[faces] = yards;
            faces++;
            return faces - 1;
        }

        int addArch(int newThrust) {
            if (arches >= MOST_ARCHES) {
                return FULL;
            }
            thrust[arches] = newThrust;
            arches++;
            return arches - 1;
        }

        int meetingDay(int length) {
            if (faces == 0) {
                return NONE;
            }
            int tooEarly = -1;
            for (int step = FIRST_STEP; step > 0; step /= 2) {
                if (yardsBy(tooEarly + step) < length) {
                    tooEarly += step;
                }
            }
            return tooEarly + 1;
        }

        private int yardsBy(int day) {
            int sum = 0;
            for (int i = 0; i < faces; i++) {
                sum += Math.max(0, day - faceDay[i] + 1) * faceYards[i];
            }
            return sum;
        }

        int archInOrder(int p, int i) {
            if (i >= arches) {
                return NONE;
            }
            findWaysOn(p);
            int standing = 0;
            int next = NONE;
            for (int step = 0; step <= i; step++) {
                next = firstWayOn(standing);
                if (next == NONE) {
                    return NONE;
                }
                standing |= 1 << next;
            }
            return next;
        }

        /** From all arches down to none, since each set is judged by the greater ones. */
        private void findWaysOn(int p) {
            int all = (1 << arches) - 1;
            for (int standing = all; standing >= 0; standing--) {
                boolean goes = standing == all || firstWayOn(standing) != NONE;
                canGoOn[standing] = goes && holds(standing, p) ? 1 : 0;
            }
        }

        private int firstWayOn(int standing) {
            for (int i = 0; i < arches; i++) {
                if (!hasBit(standing, i) && canGoOn[standing | 1 << i] == 1) {
                    return i;
                }
            }
            return NONE;
        }

        private boolean holds(int standing, int p) {
            for (int i = 1; i < arches; i++) {
                int left = hasBit(standing, i - 1) ? thrust[i - 1] : 0;
                int right = hasBit(standing, i) ? thrust[i] : 0;
                if (Math.abs(left - right) > p) {
                    return false;
                }
            }
            return true;
        }
    }

    /** One survey: floats by their halves, with gaps, or shorts; or missing. */
    private static final class Survey {
        static final int MISSING = -1, FLOATS = 0, SHORTS = 1, MOST = 24;
        private static final int FARTHEST = 100000;

        int sort = MISSING;
        private int size;
        /** NONE stands for no number: no float that may be noted is as far off. */
        final int[] places = new int[MOST];

        void begin(int newSort, int n) {
            sort = newSort;
            size = clamp(n, 0, MOST);
            Arrays.fill(places, 0);
        }

        /** 0: there is such a place. */
        int findingAt(int place) {
            if (sort == MISSING) {
                return NOTHING;
            }
            return inside(place, 0, size - 1) ? 0 : INDEX;
        }

        boolean hasRun(int place, int many) {
            return many >= 0 && inside(place, 0, size) && many <= size - place;
        }

        int write(int place, int v) {
            if (sort == SHORTS && v == NONE) {
                return KIND;
            }
            if (sort == FLOATS && v != NONE && !inside(v, -FARTHEST, FARTHEST)) {
                return BAD;
            }
            exchange(places, place, sort == SHORTS ? (short) v : v);
            return 1;
        }

        int valueAt(int place) {
            int left = nearest(place, -1);
            int right = nearest(place, 1);
            if (left == NONE && right == NONE) {
                return KIND;
            }
            if (left == NONE || right == NONE) {
                return places[left == NONE ? right : left];
            }
            int span = right - left;
            if (span <= 0) {
                return places[left];
            }
            return (places[left] * (right - place) + places[right] * (place - left)) / span;
        }

        /** The nearest place with a number, itself first, in the direction of step. */
        private int nearest(int place, int step) {
            for (int far = 0; far < size; far++) {
                int i = place + far * step;
                if (inside(i, 0, size - 1) && places[i] != NONE) {
                    return i;
                }
            }
            return NONE;
        }
    }
}
