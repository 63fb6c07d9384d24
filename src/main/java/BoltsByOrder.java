/**
 * A plain on which lightning is delivered by subscription: a row of places, rods of kinds,
 * a cloud that drifts and gathers, and hours that go by.
 *
 * Nothing is made after the constructor: every what-if is played on one ghost of the plain.
 */
public final class BoltsByOrder {
    private static final int BEYOND = -1000000001;
    private static final int FULL = -1000000002;
    private static final int KIND = -1000000003;
    private static final int NONE = -1000000004;
    private static final int STATE = -1000000005;
    private static final int MISSING = -1000000006;
    private static final int SIZE = -1000000007;
    private static final int FINDINGS = 7;

    private static final int PLACES = 16;
    private static final int MOST_RODS = 8;
    private static final int KINDS = 6;
    private static final int MOST_HEIGHT = 60;
    private static final int MOST_CHARGE = 99;
    private static final int MOST_HOUR = 9999;
    private static final int MOST_HELD = 99999;
    private static final int DAY = 24;
    private static final int FAR = 100;
    private static final int NEAR = 60;
    private static final int MOST_DAYS = 4;
    private static final int MOST_BYTES = 120;
    private static final int SHEETS = 4;
    private static final int MOST_NUMBERS = 40;

    private final Plain real;
    private final Plain ghost;
    private final Plain kept;
    private boolean isKept;
    private final PlainText text;
    private final Sheet[] sheets;
    private final int[] told;

    public BoltsByOrder() {
        real = new Plain();
        ghost = new Plain();
        kept = new Plain();
        isKept = false;
        text = new PlainText();
        sheets = new Sheet[SHEETS];
        for (int s = 0; s < SHEETS; s++) {
            sheets[s] = new Sheet();
        }
        told = new int[FINDINGS];
    }

    // ---- the cloud

    public int cloud(int what, int v) {
        if (!Cloud.mayBe(what, v)) {
            return tell(BEYOND);
        }
        int was = real.cloud.part(what);
        real.cloud.setPart(what, v);
        return was;
    }

    public int cloudOf(int what) {
        if (!isWithin(what, 0, Cloud.PARTS - 1)) {
            return tell(BEYOND);
        }
        return real.cloud.part(what);
    }

    // ---- rods

    public int rod(int kind, int place) {
        if (!isKind(kind) || !isPlace(place)) {
            return tell(BEYOND);
        }
        if (real.isFull()) {
            return tell(FULL);
        }
        real.add(kind, place);
        return real.rodCount - 1;
    }

    public int of(int rod, int what) {
        if (!isRod(rod) || !isWithin(what, 0, 9)) {
            return tell(BEYOND);
        }
        Rod one = real.rods[rod];
        switch (what) {
            case 7:
                return one.drawsFrom(real.cloud.place);
            case 8:
                return one.owesFor(real.cloud.charge, real.clock());
            case 9:
                return one.isPaidAt(real.clock()) ? 1 : 0;
            default:
                return one.part(what);
        }
    }

    public int set(int rod, int what, int v) {
        if (!isRod(rod)) {
            return tell(BEYOND);
        }
        Rod one = real.rods[rod];
        if (what == Rod.PLACE && isPlace(v)) {
            int was = one.place;
            one.place = v;
            return was;
        }
        if (what == Rod.HEIGHT && isHeight(v)) {
            int was = one.height;
            one.height = v;
            return was;
        }
        return tell(BEYOND);
    }

    public int pays(int rod, int from, int to) {
        if (!isRod(rod) || !isClock(from) || !isClock(to)) {
            return tell(BEYOND);
        }
        Rod one = real.rods[rod];
        one.from = from;
        one.to = to;
        return one.paidHours();
    }

    public int turn(int rod, int kind) {
        if (!isRod(rod) || !isKind(kind)) {
            return tell(BEYOND);
        }
        int was = real.rods[rod].kind;
        real.rods[rod].kind = kind;
        return was;
    }

    public int as(int rod, int kind) {
        if (!isRod(rod) || !isKind(kind)) {
            return tell(BEYOND);
        }
        if (!real.rods[rod].isOf(kind)) {
            return tell(KIND);
        }
        return real.rods[rod].height;
    }

    public int down(int rod) {
        if (!isRod(rod)) {
            return tell(BEYOND);
        }
        int bill = real.rods[rod].bill;
        real.takeDown(rod);
        return bill;
    }

    public int settle(int rod) {
        if (!isRod(rod)) {
            return tell(BEYOND);
        }
        int bill = real.rods[rod].bill;
        real.rods[rod].bill = 0;
        return bill;
    }

    // ---- hours

    public int hours(int n) {
        if (!isWithin(n, 1, FAR)) {
            return tell(BEYOND);
        }
        if (real.hour + n > MOST_HOUR) {
            return tell(STATE);
        }
        real.goHours(n);
        return real.partsOfAll(Rod.BILL);
    }

    public int days(int n) {
        if (!isWithin(n, 1, MOST_DAYS)) {
            return tell(BEYOND);
        }
        if (real.hour + n * DAY > MOST_HOUR) {
            return tell(STATE);
        }
        for (int day = 0; day < n; day++) {
            real.drawDrift();
            real.goHours(DAY);
        }
        return real.partsOfAll(Rod.BILL);
    }

    public int seed(int v) {
        int was = real.z;
        real.z = v;
        return was;
    }

    public int now(int what) {
        switch (what) {
            case 0:
                return real.hour;
            case 1:
                return real.clock();
            case 2:
                return real.partsOfAll(Rod.BILL);
            case 3:
                return real.partsOfAll(Rod.BOLTS);
            case 4:
                return real.strays;
            case 5:
                return real.paidRods();
            default:
                return tell(BEYOND);
        }
    }

    public int on(int rod, int n, int what) {
        if (!isRod(rod) || !isWithin(n, 0, FAR) || !isWithin(what, 0, 1)) {
            return tell(BEYOND);
        }
        raiseGhost();
        ghost.goHours(n);
        return what == 0 ? ghost.rods[rod].bill : ghost.rods[rod].bolts;
    }

    // ---- the next bolt

    public int next(int what) {
        if (!isWithin(what, 0, 3)) {
            return tell(BEYOND);
        }
        int hours = leadGhostToBolt();
        if (hours < 0) {
            return tell(NONE);
        }
        switch (what) {
            case 0:
                return hours;
            case 1:
                return ghost.targetFrom(ghost.cloud.place);
            case 2:
                return ghost.cloud.charge;
            default:
                return ghost.cloud.place;
        }
    }

    public int struck(int place) {
        if (!isPlace(place)) {
            return tell(BEYOND);
        }
        return real.targetFrom(place);
    }

    public int reach(int rod) {
        if (!isRod(rod)) {
            return tell(BEYOND);
        }
        int set = 0;
        for (int place = 0; place < PLACES; place++) {
            if (real.targetFrom(place) == rod) {
                set |= 1 << place;
            }
        }
        return set;
    }

    public int steals(int rod) {
        if (!isRod(rod)) {
            return tell(BEYOND);
        }
        boolean comes = leadGhostToBolt() >= 0;
        for (int height = 0; comes && height <= MOST_HEIGHT; height++) {
            if (isGhostStruck(rod, height)) {
                return height;
            }
        }
        return tell(NONE);
    }

    public int ducks(int rod) {
        if (!isRod(rod)) {
            return tell(BEYOND);
        }
        boolean comes = leadGhostToBolt() >= 0;
        for (int height = MOST_HEIGHT; height >= 0; height--) {
            if (!comes || !isGhostStruck(rod, height)) {
                return height;
            }
        }
        return tell(NONE);
    }

    public int place(int rod, int n) {
        if (!isRod(rod) || !isWithin(n, 0, FAR)) {
            return tell(BEYOND);
        }
        int best = 0;
        int most = -1;
        for (int place = 0; place < PLACES; place++) {
            raiseGhost();
            ghost.rods[rod].place = place;
            ghost.goHours(n);
            if (ghost.rods[rod].bolts > most) {
                most = ghost.rods[rod].bolts;
                best = place;
            }
        }
        return best;
    }

    public int thief(int rod, int n) {
        if (!isRod(rod) || !isWithin(n, 0, NEAR)) {
            return tell(BEYOND);
        }
        raiseGhost();
        ghost.goHours(n);
        int most = ghost.rods[rod].bolts;
        int best = -1;
        for (int other = 0; other < real.rodCount; other++) {
            if (other == rod) {
                continue;
            }
            raiseGhost();
            ghost.takeDown(other);
            ghost.goHours(n);
            // Those behind the one that was taken down have closed up.
            int bolts = ghost.rods[other < rod ? rod - 1 : rod].bolts;
            if (bolts > most) {
                most = bolts;
                best = other;
            }
        }
        return best < 0 ? tell(NONE) : best;
    }

    public int kind(int rod, int n) {
        if (!isRod(rod) || !isWithin(n, 0, NEAR)) {
            return tell(BEYOND);
        }
        int best = 0;
        int most = -1;
        int least = 0;
        for (int kind = 0; kind < KINDS; kind++) {
            raiseGhost();
            Rod one = ghost.rods[rod];
            one.kind = kind;
            ghost.goHours(n);
            if (one.bolts > most || (one.bolts == most && one.bill < least)) {
                best = kind;
                most = one.bolts;
                least = one.bill;
            }
        }
        return best;
    }

    // ---- hours to be paid for

    public int clocks(int rod, int n) {
        if (!isRod(rod) || !isWithin(n, 0, FAR)) {
            return tell(BEYOND);
        }
        return clocksOfBolts(rod, n);
    }

    public int covers(int rod, int n) {
        if (!isRod(rod) || !isWithin(n, 0, FAR)) {
            return tell(BEYOND);
        }
        int set = clocksOfBolts(rod, n);
        return hoursToCover(set, bestFrom(set));
    }

    public int from(int rod, int n) {
        if (!isRod(rod) || !isWithin(n, 0, FAR)) {
            return tell(BEYOND);
        }
        return bestFrom(clocksOfBolts(rod, n));
    }

    public int strays(int n) {
        if (!isWithin(n, 0, FAR)) {
            return tell(BEYOND);
        }
        raiseGhost();
        ghost.goHours(n);
        return ghost.strays;
    }

    // ---- forks

    public int fork(int rod, int part) {
        if (!isRod(rod) || !isWithin(part, 0, 1)) {
            return tell(BEYOND);
        }
        int all = real.drawsOfAll();
        int above = real.forked(rod);
        int divisor = commonDivisor(above, all);
        if (above == 0 || divisor == 0) {
            // 0 is 0 by 1.
            return part == 0 ? 0 : 1;
        }
        return part == 0 ? above / divisor : all / divisor;
    }

    public int share(int rod) {
        if (!isRod(rod)) {
            return tell(BEYOND);
        }
        int all = real.drawsOfAll();
        if (all == 0) {
            return 0;
        }
        int left = real.cloud.charge;
        int ahead = 0;
        int ownRest = real.forked(rod) % all;
        for (int other = 0; other < real.rodCount; other++) {
            left -= real.forked(other) / all;
            int rest = real.forked(other) % all;
            if (rest > ownRest || (rest == ownRest && other < rod)) {
                ahead++;
            }
        }
        return real.forked(rod) / all + (ahead < left ? 1 : 0);
    }

    // ---- the text

    public int feed(int bytes, int n) {
        if (!isWithin(n, 1, 4)) {
            return tell(BEYOND);
        }
        if (text.tape.size + n > MOST_BYTES) {
            return tell(FULL);
        }
        for (int i = n - 1; i >= 0; i--) {
            text.tape.add((bytes >>> (8 * i)) & 255);
        }
        return text.tape.size;
    }

    public int wipe() {
        int had = text.tape.size;
        text.tape.size = 0;
        return had;
    }

    public int plain() {
        raiseGhost();
        int answer = text.layOut(ghost);
        if (answer >= 0) {
            real.takeFrom(ghost);
        }
        text.tape.size = 0;
        return answer;
    }

    // ---- sheets

    public int sheet(int s, int bits, int n) {
        if (!isSheet(s) || !Sheet.mayHave(bits)) {
            return tell(BEYOND);
        }
        if (n < 0) {
            return tell(SIZE);
        }
        if (n > MOST_NUMBERS) {
            return tell(BEYOND);
        }
        sheets[s].layNew(bits, n);
        return sheets[s].size;
    }

    public long write(int s, int i, long v) {
        int finding = findingOfSheet(s);
        if (finding != 0) {
            return tell(finding);
        }
        if (!isWithin(i, 0, sheets[s].size - 1)) {
            return tell(BEYOND);
        }
        long was = sheets[s].numbers[i];
        sheets[s].put(i, v);
        return was;
    }

    public int copy(int s, int from, int t, int to, int n) {
        if (!isSheet(s) || !isSheet(t)) {
            return tell(BEYOND);
        }
        if (sheets[s].isMissing() || sheets[t].isMissing()) {
            return tell(MISSING);
        }
        if (sheets[s].bits != sheets[t].bits) {
            return tell(KIND);
        }
        if (!sheets[s].has(from, n) || !sheets[t].has(to, n)) {
            return tell(BEYOND);
        }
        System.arraycopy(sheets[s].numbers, from, sheets[t].numbers, to, n);
        return n;
    }

    public int lays(int s) {
        int finding = findingOfSheet(s);
        if (finding != 0) {
            return tell(finding);
        }
        int came = 0;
        int most = Math.min(sheets[s].size, real.rodCount);
        for (int i = 0; i < most; i++) {
            long height = sheets[s].numbers[i];
            if (height >= 0 && height <= MOST_HEIGHT) {
                real.rods[i].height = (int) height;
                came++;
            }
        }
        return came;
    }

    public int book(int s, int rod) {
        int finding = findingOfBook(s, rod);
        if (finding != 0) {
            return tell(finding);
        }
        raiseGhost();
        ghost.aim();
        for (int i = 0; i < sheets[s].size; i++) {
            sheets[s].put(i, ghost.rods[rod].bolts);
            ghost.goHour();
        }
        return sheets[s].size;
    }

    public int read(int s, int rod) {
        int finding = findingOfBook(s, rod);
        if (finding != 0) {
            return tell(finding);
        }
        raiseGhost();
        ghost.aim();
        int pairs = 0;
        for (int charge = 0; charge <= MOST_CHARGE; charge++) {
            for (int place = 0; place < PLACES; place++) {
                ghost.cloud.takeFrom(real.cloud);
                ghost.cloud.charge = charge;
                ghost.cloud.place = place;
                pairs += isBooked(sheets[s], rod) ? 1 : 0;
            }
        }
        return pairs;
    }

    // ---- images

    public int image() {
        kept.takeFrom(real);
        isKept = true;
        return 1;
    }

    public int undo() {
        if (!isKept) {
            return tell(NONE);
        }
        real.takeFrom(kept);
        return real.rodCount;
    }

    public int tear() {
        int had = isKept ? 1 : 0;
        isKept = false;
        return had;
    }

    public int count(int what) {
        switch (what) {
            case 0:
                return real.rodCount;
            case 1:
                return text.tape.size;
            case 2:
                return real.partsOfAll(Rod.HEIGHT);
            case 3:
                return real.paidHoursOfAll();
            default:
                return tell(BEYOND);
        }
    }

    public int status(int which) {
        if (!isWithin(which, -1, FINDINGS - 1)) {
            return tell(BEYOND);
        }
        if (which >= 0) {
            return told[which];
        }
        int all = 0;
        for (int i = 0; i < FINDINGS; i++) {
            all += told[i];
        }
        return all;
    }

    // ---- what the calls have in common

    private int tell(int finding) {
        int which = BEYOND - finding;
        if (isWithin(which, 0, FINDINGS - 1)) {
            told[which]++;
        }
        return finding;
    }

    private static boolean isWithin(int v, int least, int most) {
        return v >= least && v <= most;
    }

    private boolean isRod(int rod) {
        return isWithin(rod, 0, real.rodCount - 1);
    }

    private static boolean isKind(int kind) {
        return isWithin(kind, 0, KINDS - 1);
    }

    private static boolean isPlace(int place) {
        return isWithin(place, 0, PLACES - 1);
    }

    private static boolean isHeight(int height) {
        return isWithin(height, 0, MOST_HEIGHT);
    }

    private static boolean isClock(int clock) {
        return isWithin(clock, 0, DAY - 1);
    }

    private static boolean isSheet(int s) {
        return isWithin(s, 0, SHEETS - 1);
    }

    /** What keeps a sheet from being used, or 0. */
    private int findingOfSheet(int s) {
        if (!isSheet(s)) {
            return BEYOND;
        }
        return sheets[s].isMissing() ? MISSING : 0;
    }

    private int findingOfBook(int s, int rod) {
        int finding = findingOfSheet(s);
        if (finding == 0 && !isRod(rod)) {
            return BEYOND;
        }
        return finding;
    }

    private void raiseGhost() {
        ghost.takeFrom(real);
    }

    /** Leaves the ghost's cloud as it is when it strikes; the answer is -1 if no bolt comes. */
    private int leadGhostToBolt() {
        raiseGhost();
        for (int hours = 0; hours < FAR; hours++) {
            if (ghost.cloud.isBreaking()) {
                return hours;
            }
            ghost.cloud.goOn();
        }
        return -1;
    }

    private boolean isGhostStruck(int rod, int height) {
        ghost.rods[rod].height = height;
        return ghost.targetFrom(ghost.cloud.place) == rod;
    }

    private int clocksOfBolts(int rod, int n) {
        raiseGhost();
        ghost.aim();
        int set = 0;
        for (int i = 0; i < n; i++) {
            if (ghost.boltStrikes(rod)) {
                set |= 1 << ghost.clock();
            }
            ghost.goHour();
        }
        return set;
    }

    private static int bestFrom(int set) {
        int best = 0;
        for (int from = 1; from < DAY; from++) {
            if (hoursToCover(set, from) < hoursToCover(set, best)) {
                best = from;
            }
        }
        return best;
    }

    private static int hoursToCover(int set, int from) {
        int turned = ((set >>> from) | (set << (DAY - from))) & ((1 << DAY) - 1);
        return 32 - Integer.numberOfLeadingZeros(turned);
    }

    private static int commonDivisor(int a, int b) {
        int greater = a;
        int less = b;
        // Far more steps than numbers of this size can need.
        for (int i = 0; i < 100 && less != 0; i++) {
            int rest = greater % less;
            greater = less;
            less = rest;
        }
        return greater;
    }

    /** Plays the ghost's cloud alone: the bills and hours that it would change are not asked for. */
    private boolean isBooked(Sheet sheet, int rod) {
        int bolts = real.rods[rod].bolts;
        for (int i = 0; i < sheet.size; i++) {
            if (sheet.numbers[i] != bolts) {
                return false;
            }
            if (ghost.boltStrikes(rod)) {
                bolts = held(bolts + 1);
            }
            ghost.cloud.passHour();
        }
        return true;
    }

    private static int held(int v) {
        return Math.min(v, MOST_HELD);
    }

    /** What hangs above the plain. */
    private static final class Cloud {
        static final int PLACE = 0;
        static final int CHARGE = 1;
        static final int DRIFT = 2;
        static final int GROWS = 3;
        static final int BREAKS = 4;
        static final int PARTS = 5;
        private static final int[] LEAST = {0, 0, -1, 0, 20};
        private static final int[] MOST = {15, 99, 1, 50, 99};

        int place;
        int charge;
        int drift;
        int grows;
        int breaks;

        Cloud() {
            place = 0;
            charge = 0;
            drift = 1;
            grows = 20;
            breaks = 60;
        }

        static boolean mayBe(int what, int v) {
            return isWithin(what, 0, PARTS - 1) && isWithin(v, LEAST[what], MOST[what]);
        }

        void takeFrom(Cloud other) {
            place = other.place;
            charge = other.charge;
            drift = other.drift;
            grows = other.grows;
            breaks = other.breaks;
        }

        int part(int what) {
            switch (what) {
                case PLACE:
                    return place;
                case CHARGE:
                    return charge;
                case DRIFT:
                    return drift;
                case GROWS:
                    return grows;
                default:
                    return breaks;
            }
        }

        void setPart(int what, int v) {
            switch (what) {
                case PLACE:
                    place = v;
                    break;
                case CHARGE:
                    charge = v;
                    break;
                case DRIFT:
                    drift = v;
                    break;
                case GROWS:
                    grows = v;
                    break;
                default:
                    breaks = v;
                    break;
            }
        }

        boolean isBreaking() {
            return charge >= breaks;
        }

        /** An hour with its bolt, if there is one. */
        void passHour() {
            if (isBreaking()) {
                charge = 0;
            }
            goOn();
        }

        /** What is left of an hour when its bolt has struck. */
        void goOn() {
            int ahead = place + drift;
            if (isPlace(ahead)) {
                place = ahead;
            } else {
                drift = -drift;
            }
            charge = Math.min(charge + grows, MOST_CHARGE);
        }
    }

    /** One that may be struck. */
    private static final class Rod {
        static final int ROD = 0;
        static final int COPPER = 1;
        static final int KITE = 2;
        static final int OAK = 3;
        static final int CATHEDRAL = 4;
        static final int POACHER = 5;

        static final int PLACE = 1;
        static final int HEIGHT = 2;
        static final int BILL = 5;
        static final int BOLTS = 6;

        int kind;
        int place;
        int height;
        int from;
        int to;
        int bill;
        int bolts;

        void becomeNew(int newKind, int newPlace) {
            kind = newKind;
            place = newPlace;
            height = 10;
            from = 0;
            to = 0;
            bill = 0;
            bolts = 0;
        }

        void takeFrom(Rod other) {
            kind = other.kind;
            place = other.place;
            height = other.height;
            from = other.from;
            to = other.to;
            bill = other.bill;
            bolts = other.bolts;
        }

        int part(int what) {
            switch (what) {
                case 0:
                    return kind;
                case PLACE:
                    return place;
                case HEIGHT:
                    return height;
                case 3:
                    return from;
                case 4:
                    return to;
                case BILL:
                    return bill;
                default:
                    return bolts;
            }
        }

        boolean isOf(int asked) {
            if (asked == kind || asked == ROD) {
                return true;
            }
            return (kind == CATHEDRAL && asked == COPPER) || (kind == POACHER && asked == KITE);
        }

        int drawsFrom(int cloudPlace) {
            int asRod = Math.max(height - 4 * Math.abs(place - cloudPlace), 0);
            int asCopper = asRod + 8;
            int asKite = asRod + height;
            switch (kind) {
                case COPPER:
                    return asCopper;
                case KITE:
                    return asKite;
                case OAK:
                    return Math.max(asRod - 3, 0);
                case CATHEDRAL:
                    return asCopper + 20;
                case POACHER:
                    return Math.max(asKite - 10, 0);
                default:
                    return asRod;
            }
        }

        int owesFor(int charge, int clock) {
            int asRod = isPaidAt(clock) ? charge : 0;
            int asCopper = asRod - asRod / 10;
            switch (kind) {
                case COPPER:
                    return asCopper;
                case OAK:
                    return 0;
                case CATHEDRAL:
                    return asCopper / 2;
                case POACHER:
                    return 0;
                default:
                    return asRod;
            }
        }

        int paidHours() {
            return (to - from + DAY) % DAY;
        }

        boolean isPaidAt(int clock) {
            return (clock - from + DAY) % DAY < paidHours();
        }
    }

    /** All that an image keeps. */
    private static final class Plain {
        final Cloud cloud;
        final Rod[] rods;
        int rodCount;
        int hour;
        int strays;
        int z;
        private final int[] targets;

        Plain() {
            cloud = new Cloud();
            rods = new Rod[MOST_RODS];
            for (int i = 0; i < MOST_RODS; i++) {
                rods[i] = new Rod();
            }
            rodCount = 0;
            hour = 0;
            strays = 0;
            z = 1;
            targets = new int[PLACES];
        }

        void takeFrom(Plain other) {
            cloud.takeFrom(other.cloud);
            rodCount = other.rodCount;
            for (int i = 0; i < rodCount; i++) {
                rods[i].takeFrom(other.rods[i]);
            }
            hour = other.hour;
            strays = other.strays;
            z = other.z;
        }

        boolean isFull() {
            return rodCount >= MOST_RODS;
        }

        Rod add(int kind, int place) {
            Rod one = rods[rodCount];
            one.becomeNew(kind, place);
            rodCount++;
            return one;
        }

        void takeDown(int rod) {
            Rod gone = rods[rod];
            for (int i = rod; i < rodCount - 1; i++) {
                rods[i] = rods[i + 1];
            }
            rodCount--;
            // It is used again for the next new one.
            rods[rodCount] = gone;
        }

        int clock() {
            return hour % DAY;
        }

        int targetFrom(int cloudPlace) {
            int target = -1;
            int most = 0;
            for (int i = 0; i < rodCount; i++) {
                int draws = rods[i].drawsFrom(cloudPlace);
                if (draws > most) {
                    most = draws;
                    target = i;
                }
            }
            return target;
        }

        /** No hour changes what a rod draws, so whom a bolt strikes is looked up once for all hours. */
        void aim() {
            for (int place = 0; place < PLACES; place++) {
                targets[place] = targetFrom(place);
            }
        }

        boolean boltStrikes(int rod) {
            return cloud.isBreaking() && targets[cloud.place] == rod;
        }

        /** Asks for aim() ahead of it. */
        void goHour() {
            if (cloud.isBreaking()) {
                strike(targets[cloud.place]);
            }
            cloud.passHour();
            hour++;
        }

        private void strike(int target) {
            int owed = 0;
            if (isWithin(target, 0, rodCount - 1)) {
                Rod one = rods[target];
                owed = one.owesFor(cloud.charge, clock());
                one.bolts = held(one.bolts + 1);
                one.bill = held(one.bill + owed);
            }
            if (owed == 0) {
                strays = held(strays + cloud.charge);
            }
        }

        void goHours(int n) {
            aim();
            for (int i = 0; i < n; i++) {
                goHour();
            }
        }

        void drawDrift() {
            z = z * 1103515245 + 12345;
            cloud.drift = (z >>> 8) % 3 - 1;
        }

        int partsOfAll(int what) {
            int all = 0;
            for (int i = 0; i < rodCount; i++) {
                all += rods[i].part(what);
            }
            return all;
        }

        int paidHoursOfAll() {
            int all = 0;
            for (int i = 0; i < rodCount; i++) {
                all += rods[i].paidHours();
            }
            return all;
        }

        int drawsOfAll() {
            int all = 0;
            for (int i = 0; i < rodCount; i++) {
                all += rods[i].drawsFrom(cloud.place);
            }
            return all;
        }

        /** A rod's part of a fork, ahead of the division by the draws of all. */
        int forked(int rod) {
            return rods[rod].drawsFrom(cloud.place) * cloud.charge;
        }

        int paidRods() {
            int set = 0;
            for (int i = 0; i < rodCount; i++) {
                if (rods[i].isPaidAt(clock())) {
                    set |= 1 << i;
                }
            }
            return set;
        }
    }

    /** Bytes that wait to be understood. */
    private static final class Tape {
        final int[] bytes;
        int size;

        Tape() {
            bytes = new int[MOST_BYTES];
            size = 0;
        }

        void add(int b) {
            if (size < MOST_BYTES) {
                bytes[size] = b;
                size++;
            }
        }
    }

    /** The text of a plain: one token is looked at, and stays so if it can't stand there. */
    private static final class PlainText {
        private static final int END = 0;
        private static final int WORD = 1;
        private static final int NUMBER = 2;
        private static final int SIGN = 3;
        private static final int NO_TOKEN = 4;
        private static final int TOO_MUCH = 1000;

        final Tape tape;
        private int sort;
        private int start;
        private int end;
        private int value;

        PlainText() {
            tape = new Tape();
            sort = END;
            start = 0;
            end = 0;
            value = 0;
        }

        /** How many items came to the plain, or -1 less the place of the fault. */
        int layOut(Plain plain) {
            end = 0;
            goToToken();
            for (int items = 1; items <= MOST_BYTES; items++) {
                if (!layItem(plain)) {
                    return -1 - start;
                }
                if (sort == END) {
                    return items;
                }
                if (sort != SIGN) {
                    return -1 - start;
                }
                goToToken();
            }
            return -1 - start;
        }

        private boolean layItem(Plain plain) {
            int kind = kindTold();
            if (isKind(kind)) {
                return layRod(plain, kind);
            }
            if (takeWord("cloud")) {
                return layCloud(plain.cloud);
            }
            if (takeWord("grows")) {
                return takeCloudPart(plain.cloud, Cloud.GROWS);
            }
            if (takeWord("breaks")) {
                return takeCloudPart(plain.cloud, Cloud.BREAKS);
            }
            return false;
        }

        private boolean layRod(Plain plain, int kind) {
            if (plain.isFull()) {
                return false;
            }
            goToToken();
            if (!takeWord("at") || !isNumber(0, PLACES - 1)) {
                return false;
            }
            Rod one = plain.add(kind, takeNumber());
            if (takeWord("high")) {
                if (!isNumber(0, MOST_HEIGHT)) {
                    return false;
                }
                one.height = takeNumber();
            }
            if (takeWord("from")) {
                if (!isNumber(0, DAY - 1)) {
                    return false;
                }
                one.from = takeNumber();
                if (!takeWord("to") || !isNumber(0, DAY - 1)) {
                    return false;
                }
                one.to = takeNumber();
            }
            return true;
        }

        private boolean layCloud(Cloud cloud) {
            if (!takeCloudPart(cloud, Cloud.PLACE)) {
                return false;
            }
            if (takeWord("charge") && !takeCloudPart(cloud, Cloud.CHARGE)) {
                return false;
            }
            if (takeWord("left")) {
                cloud.drift = -1;
            } else if (takeWord("right")) {
                cloud.drift = 1;
            } else if (takeWord("still")) {
                cloud.drift = 0;
            }
            return true;
        }

        private boolean takeCloudPart(Cloud cloud, int what) {
            if (sort != NUMBER || !Cloud.mayBe(what, value)) {
                return false;
            }
            cloud.setPart(what, value);
            goToToken();
            return true;
        }

        private int kindTold() {
            if (isWord("rod")) {
                return Rod.ROD;
            }
            if (isWord("copper")) {
                return Rod.COPPER;
            }
            if (isWord("kite")) {
                return Rod.KITE;
            }
            if (isWord("oak")) {
                return Rod.OAK;
            }
            if (isWord("cathedral")) {
                return Rod.CATHEDRAL;
            }
            return isWord("poacher") ? Rod.POACHER : -1;
        }

        private boolean isWord(String word) {
            if (sort != WORD || word.length() != end - start) {
                return false;
            }
            for (int i = 0; i < word.length(); i++) {
                if (tape.bytes[start + i] != word.charAt(i)) {
                    return false;
                }
            }
            return true;
        }

        private boolean takeWord(String word) {
            boolean is = isWord(word);
            if (is) {
                goToToken();
            }
            return is;
        }

        private boolean isNumber(int least, int most) {
            return sort == NUMBER && isWithin(value, least, most);
        }

        private int takeNumber() {
            int taken = value;
            goToToken();
            return taken;
        }

        private void goToToken() {
            start = end;
            while (start < tape.size && tape.bytes[start] == ' ') {
                start++;
            }
            end = start;
            if (start >= tape.size) {
                sort = END;
                return;
            }
            sort = sortOf(tape.bytes[start]);
            end++;
            boolean goesOn = sort == WORD || sort == NUMBER;
            while (goesOn && end < tape.size && sortOf(tape.bytes[end]) == sort) {
                end++;
            }
            value = sort == NUMBER ? numberTold() : 0;
        }

        private static int sortOf(int b) {
            if (b >= 'a' && b <= 'z') {
                return WORD;
            }
            if (b >= '0' && b <= '9') {
                return NUMBER;
            }
            return b == ';' ? SIGN : NO_TOKEN;
        }

        private int numberTold() {
            int number = 0;
            for (int i = start; i < end; i++) {
                // A number that is too great already stays so, and never wraps around.
                number = number >= TOO_MUCH ? TOO_MUCH : number * 10 + tape.bytes[i] - '0';
            }
            return number;
        }
    }

    /** A row of numbers, held in the widest form and cut to its bits when they are put. */
    private static final class Sheet {
        final long[] numbers;
        int bits;
        int size;

        Sheet() {
            numbers = new long[MOST_NUMBERS];
            bits = 0;
            size = 0;
        }

        static boolean mayHave(int bits) {
            return bits == 0 || bits == 8 || bits == 16 || bits == 64;
        }

        void layNew(int newBits, int n) {
            bits = newBits;
            size = newBits == 0 ? 0 : n;
            for (int i = 0; i < size; i++) {
                numbers[i] = 0;
            }
        }

        boolean isMissing() {
            return bits == 0;
        }

        void put(int i, long v) {
            if (bits == 8) {
                numbers[i] = (byte) v;
            } else if (bits == 16) {
                numbers[i] = (short) v;
            } else {
                numbers[i] = v;
            }
        }

        boolean has(int from, int n) {
            return from >= 0 && n >= 0 && n <= size - from;
        }
    }
}
