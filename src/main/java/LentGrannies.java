/** A town whose grandmothers are lent to its children by rota; ../shared/DOC.md says what each call answers. */
public final class LentGrannies {
    public static final int NONE = -1000000, BAD = -1000001, STATE = -1000002, FULL = -1000003;

    private static final int NO_FINDING = 0, NULL = 1, PLACE = 2, WRONG_KIND = 3, SIZE = 4, STORE = 5;
    private static final int FINDINGS = -1000010, FAULTS = -1000100;

    private static final int ROWS = 8, ITEMS = 40, LANES = 3, TAPE = 100;
    private static final int CHILDREN = 5, GRANS = 6, ACTS = 24, IMAGES = 2, TRACED = 16;
    private static final int MOST_FED = 99, MOST_SPOILT = 20, MOST_STEP = 4, LAST_DAY = 999;
    private static final int FAR = 60, ROTA_DAYS = 14, TOLD_DAYS = 12, MOST_SEED = 999999;

    private static final int SOUP = 1, COOK = 2, TELLER = 3, STERN = 4, SHAWL = 5;
    private static final int[] KIND_ABOVE = {-1, 0, 1, 1, 0, 4};

    private final Shelf shelf;
    private final Reader reader;
    private final Town now;
    private final Town trial;
    private final int[] page;
    private final int[] fedUnswapped;
    private final Acts acts;
    private final int[][] images;
    private final boolean[] imageKept;
    private final Asker asker;
    private final Rota search;
    private int latestFault;
    private int latestFinding;

    public LentGrannies() {
        shelf = new Shelf();
        reader = new Reader();
        now = new Town();
        trial = new Town();
        page = new int[Town.CELLS];
        fedUnswapped = new int[CHILDREN];
        acts = new Acts();
        images = new int[IMAGES][Town.CELLS];
        imageKept = new boolean[IMAGES];
        asker = new Asker();
        search = new Rota();
    }

    // ---- rows

    public int row(int row, int lane, int n) {
        if (!Shelf.holds(row) || !within(lane, 0, LANES - 1) || n > ITEMS) {
            return BAD;
        }
        if (n < 0) {
            return found(SIZE);
        }
        shelf.lay(row, lane, n);
        latestFinding = NO_FINDING;
        return n;
    }

    public int set(int row, int i, int v) {
        if (!Shelf.holds(row)) {
            return BAD;
        }
        int finding = shelf.findingOf(row, i, 1);
        if (finding != NO_FINDING) {
            return found(finding);
        }
        latestFinding = NO_FINDING;
        return shelf.put(row, i, v);
    }

    public int copy(int a, int i, int b, int j, int n) {
        if (!Shelf.holds(a) || !Shelf.holds(b)) {
            return BAD;
        }
        int finding = shelf.findingOfMove(a, i, b, j, n);
        if (finding != NO_FINDING) {
            return found(finding);
        }
        latestFinding = NO_FINDING;
        shelf.move(a, i, b, j, n);
        return n;
    }

    public int drop(int row) {
        if (!Shelf.holds(row)) {
            return BAD;
        }
        if (shelf.isMissing(row)) {
            return found(NULL);
        }
        latestFinding = NO_FINDING;
        return shelf.takeAway(row);
    }

    // ---- what is told

    public int feed(int letter) {
        if (!within(letter, 0, 255)) {
            return BAD;
        }
        return reader.append(letter) ? reader.length : FULL;
    }

    public int town() {
        int fault = reader.readAll();
        if (fault != 0) {
            latestFault = fault;
            return FAULTS - reader.place;
        }
        reader.draft.save(page);
        now.load(page);
        acts.forget();
        return now.grans;
    }

    public int fault() {
        return latestFault;
    }

    public int undo() {
        return acts.takeBack(now) ? acts.kept : STATE;
    }

    // ---- what is done

    public int days(int n) {
        if (noTown()) {
            return STATE;
        }
        if (!within(n, 1, ACTS)) {
            return BAD;
        }
        if (now.day + n > LAST_DAY) {
            return FULL;
        }
        for (int d = 0; d < n; d++) {
            acts.keep(now);
            now.passDay();
        }
        return now.day;
    }

    public int sick(int gran, int n) {
        if (!now.hasGran(gran) || !within(n, 0, FAR)) {
            return BAD;
        }
        acts.keep(now);
        int was = now.ill[gran];
        now.ill[gran] = n;
        return was;
    }

    public int swap(int gran, int child) {
        if (!now.hasGran(gran) || !now.hasChild(child)) {
            return BAD;
        }
        acts.keep(now);
        int was = now.first[gran];
        now.first[gran] = child;
        return was;
    }

    public int pace(int gran, int n) {
        if (!now.hasGran(gran) || !within(n, 0, MOST_STEP)) {
            return BAD;
        }
        acts.keep(now);
        int was = now.step[gran];
        now.step[gran] = n;
        return was;
    }

    public int quarrel(int gran, int other, int on) {
        if (!now.hasGran(gran) || !now.hasGran(other) || gran == other || !within(on, 0, 1)) {
            return BAD;
        }
        if (((now.foes[gran] >> other) & 1) == on) {
            return STATE;
        }
        acts.keep(now);
        now.foes[gran] ^= 1 << other;
        now.foes[other] ^= 1 << gran;
        return now.foes[gran];
    }

    public int spoil(int child, int n) {
        if (!now.hasChild(child) || !within(n, 1, MOST_SPOILT)) {
            return BAD;
        }
        acts.keep(now);
        now.addSpoilt(child, n);
        return now.spoilt[child];
    }

    public int gran(int gran, int what) {
        if (!now.hasGran(gran)) {
            return BAD;
        }
        switch (what) {
            case 0: return now.art[gran];
            case 1: return now.first[gran];
            case 2: return now.step[gran];
            case 3: return now.ill[gran];
            case 4: return now.hostOf(gran, 0);
            case 5: return (now.lostOn(0) >> gran) & 1;
            case 6: return now.foes[gran];
            default: return BAD;
        }
    }

    public int child(int child, int what) {
        if (!now.hasChild(child)) {
            return BAD;
        }
        switch (what) {
            case 0: return now.fed[child];
            case 1: return now.spoilt[child];
            case 2: return now.told[child];
            case 3: return now.guestsOf(child);
            default: return BAD;
        }
    }

    // ---- foretold

    public int ahead(int child, int n, int what) {
        if (!now.hasChild(child) || !within(n, 0, FAR) || !within(what, 0, 2)) {
            return BAD;
        }
        openTrial();
        trial.passDays(n);
        if (what == 0) {
            return trial.fed[child];
        }
        return what == 1 ? trial.spoilt[child] : trial.told[child];
    }

    public int withWhom(int gran, int n) {
        if (!now.hasGran(gran) || !within(n, 0, FAR)) {
            return BAD;
        }
        return now.hostOf(gran, n);
    }

    public int whole(int child) {
        if (!now.hasChild(child)) {
            return BAD;
        }
        openTrial();
        return trial.daysToWhole(child);
    }

    public int hungry(int child) {
        if (!now.hasChild(child)) {
            return BAD;
        }
        openTrial();
        for (int d = 0; d <= FAR; d++) {
            if (trial.fed[child] == 0) {
                return d;
            }
            trial.passDay();
        }
        return NONE;
    }

    public int without(int n) {
        if (noTown()) {
            return STATE;
        }
        if (!within(n, 1, FAR)) {
            return BAD;
        }
        return now.allChildren() & ~now.servedIn(n);
    }

    public int rota(int children, int n, int k) {
        if (noTown()) {
            return STATE;
        }
        if (!within(children, 0, now.allChildren()) || !within(n, 1, ROTA_DAYS) || !within(k, -1, now.grans - 1)) {
            return BAD;
        }
        now.save(page);
        int changes = search.fewestChanges(page, children, n);
        return k < 0 || changes == NONE ? changes : search.town.first[k];
    }

    public int meets(int gran, int other) {
        if (!now.hasGran(gran) || !now.hasGran(other) || gran == other) {
            return BAD;
        }
        for (int d = 0; d <= FAR; d++) {
            int host = now.hostOf(gran, d);
            if (host != NONE && host == now.hostOf(other, d)) {
                return d;
            }
        }
        return NONE;
    }

    public int lost(int n) {
        if (noTown()) {
            return STATE;
        }
        if (!within(n, 1, FAR)) {
            return BAD;
        }
        int cost = 0;
        for (int d = 0; d < n; d++) {
            cost += Integer.bitCount(now.lostOn(d));
        }
        return cost;
    }

    public int swaps(int n, int what) {
        if (noTown()) {
            return STATE;
        }
        if (!within(n, 1, FAR) || !within(what, 0, 1)) {
            return BAD;
        }
        openTrial();
        trial.passDays(n);
        System.arraycopy(trial.fed, 0, fedUnswapped, 0, CHILDREN);
        int many = 0;
        int earliest = NONE;
        for (int a = 0; a < now.grans; a++) {
            for (int b = a + 1; b < now.grans; b++) {
                if (isGoodSwap(a, b, n)) {
                    many++;
                    earliest = earliest == NONE ? 10 * a + b : earliest;
                }
            }
        }
        return what == 0 ? many : earliest;
    }

    public int soon(int child, int what) {
        if (!now.hasChild(child) || !within(what, 0, 1)) {
            return BAD;
        }
        int best = NONE;
        int soonest = FAR + 1;
        now.save(page);
        for (int g = 0; g < now.grans; g++) {
            trial.load(page);
            trial.first[g] = child;
            int days = trial.daysToWhole(child);
            if (days != NONE && days < soonest) {
                best = g;
                soonest = days;
            }
        }
        return what == 0 || best == NONE ? best : soonest;
    }

    public int who(int child, int gran, int row, int i, int n) {
        int refusal = refusalOfTold(child, gran, row, i, n);
        if (refusal != 0) {
            return refusal;
        }
        int fitting = 0;
        for (int kind = SOUP; kind <= SHAWL; kind++) {
            openTrial();
            trial.sort[gran] = kind;
            fitting |= isFedAsTold(child, row, i, n) ? 1 << kind : 0;
        }
        return fitting;
    }

    public int firsts(int child, int gran, int row, int i, int n) {
        int refusal = refusalOfTold(child, gran, row, i, n);
        if (refusal != 0) {
            return refusal;
        }
        int fitting = 0;
        for (int start = 0; start < now.children; start++) {
            openTrial();
            trial.first[gran] = start;
            fitting |= isFedAsTold(child, row, i, n) ? 1 << start : 0;
        }
        return fitting;
    }

    public int steps(int child, int gran, int row, int i, int n) {
        int refusal = refusalOfTold(child, gran, row, i, n);
        if (refusal != 0) {
            return refusal;
        }
        int fitting = 0;
        for (int step = 0; step <= MOST_STEP; step++) {
            openTrial();
            trial.step[gran] = step;
            fitting |= isFedAsTold(child, row, i, n) ? 1 << step : 0;
        }
        return fitting;
    }

    public int even(int n) {
        if (noTown()) {
            return STATE;
        }
        if (!within(n, 0, FAR)) {
            return BAD;
        }
        openTrial();
        trial.passDays(n);
        int most = trial.fed[0];
        int least = trial.fed[0];
        for (int c = 1; c < trial.children; c++) {
            most = Math.max(most, trial.fed[c]);
            least = Math.min(least, trial.fed[c]);
        }
        return most - least;
    }

    public long fever(int child, int p, int what) {
        if (!now.hasChild(child) || !within(p, 0, 10) || !within(what, 0, 1)) {
            return BAD;
        }
        int guests = now.guestsOf(child);
        long above = 0;
        long below = power(10, Integer.bitCount(guests));
        for (int well = 0; well < 1 << GRANS; well++) {
            if ((well & ~guests) == 0 && now.hasPeaceful(well)) {
                int healthy = Integer.bitCount(well);
                above += power(10 - p, healthy) * power(p, Integer.bitCount(guests) - healthy);
            }
        }
        long shared = commonDivisor(above, below);
        return (what == 0 ? above : below) / shared;
    }

    public int drawn(int n, int seed, int what) {
        if (noTown()) {
            return STATE;
        }
        if (!within(n, 0, FAR) || !within(seed, 1, MOST_SEED) || !within(what, 0, 1)) {
            return BAD;
        }
        openTrial();
        long x = seed;
        for (int d = 0; d < n; d++) {
            x = x * 16807 % 2147483647L;
            if (x % 4 == 0) {
                trial.fallIll(x);
            }
            trial.passDay();
        }
        return Town.sumOf(what == 0 ? trial.fed : trial.spoilt, trial.children);
    }

    public int image(int k) {
        if (!within(k, 0, IMAGES - 1)) {
            return BAD;
        }
        if (noTown()) {
            return STATE;
        }
        now.save(images[k]);
        imageKept[k] = true;
        return 1;
    }

    public int restore(int k) {
        if (!within(k, 0, IMAGES - 1)) {
            return BAD;
        }
        if (!imageKept[k]) {
            return STATE;
        }
        now.load(images[k]);
        acts.forget();
        return 1;
    }

    // ---- asked

    public int kind(int one) {
        return now.hasGran(one) ? now.sort[one] : BAD;
    }

    public int as(int one, int kind) {
        if (!now.hasGran(one) || !within(kind, 0, SHAWL)) {
            return BAD;
        }
        if (!isOfKind(now.sort[one], kind)) {
            return found(WRONG_KIND);
        }
        latestFinding = NO_FINDING;
        return one;
    }

    public int ask(int one, int what) {
        if (!now.hasGran(one) || !within(what, 0, 1)) {
            return BAD;
        }
        asker.turnTo(one, now);
        return what == 0 ? asker.sizeAsked() : asker.markAsked();
    }

    public int trace(int i) {
        return within(i, 0, asker.length - 1) ? asker.bodies[i] : NONE;
    }

    public int count(int what) {
        switch (what) {
            case 0: return shelf.rowsThere();
            case 1: return now.children;
            case 2: return now.grans;
            case 3: return now.day;
            case 4: return Town.sumOf(now.fed, now.children);
            case 5: return Town.sumOf(now.spoilt, now.children);
            case 6: return acts.kept;
            case 7: return reader.length;
            default: return BAD;
        }
    }

    public int status() {
        return latestFinding;
    }

    private static boolean within(int n, int least, int most) {
        return n >= least && n <= most;
    }

    private int found(int finding) {
        latestFinding = finding;
        return FINDINGS - finding;
    }

    private boolean noTown() {
        return now.grans == 0;
    }

    /** What is foretold is tried out on a second town, so that the first one never has to be put back. */
    private void openTrial() {
        now.save(page);
        trial.load(page);
    }

    private boolean isGoodSwap(int a, int b, int n) {
        openTrial();
        trial.first[a] = now.first[b];
        trial.first[b] = now.first[a];
        trial.passDays(n);
        boolean better = false;
        for (int c = 0; c < trial.children; c++) {
            if (trial.fed[c] < fedUnswapped[c]) {
                return false;
            }
            better = better || trial.fed[c] > fedUnswapped[c];
        }
        return better;
    }

    /** 0 stands for no refusal, since no refusal is 0. */
    private int refusalOfTold(int child, int gran, int row, int i, int n) {
        if (!now.hasChild(child) || !now.hasGran(gran) || !Shelf.holds(row) || !within(n, 1, TOLD_DAYS)) {
            return BAD;
        }
        int finding = shelf.findingOf(row, i, n);
        if (finding != NO_FINDING) {
            return found(finding);
        }
        latestFinding = NO_FINDING;
        return 0;
    }

    private boolean isFedAsTold(int child, int row, int i, int n) {
        for (int d = 0; d < n; d++) {
            trial.passDay();
            if (trial.fed[child] != shelf.itemAt(row, i + d)) {
                return false;
            }
        }
        return true;
    }

    private static boolean isOfKind(int kind, int wanted) {
        int k = kind;
        for (int up = 0; up < KIND_ABOVE.length && k >= 0 && k < KIND_ABOVE.length; up++) {
            if (k == wanted) {
                return true;
            }
            k = KIND_ABOVE[k];
        }
        return false;
    }

    private static long power(int base, int times) {
        long product = 1;
        for (int t = 0; t < times; t++) {
            product *= base;
        }
        return product;
    }

    /** At least 1, so that it can divide; the bound is far above the turns that numbers up to a million need. */
    private static long commonDivisor(long one, long other) {
        long a = one;
        long b = other;
        for (int turn = 0; turn < 1000 && b != 0; turn++) {
            long rest = a % b;
            a = b;
            b = rest;
        }
        return Math.max(a, 1);
    }

    /** The rows: all are made once, and a missing one has a size below 0. */
    private static final class Shelf {
        private static final int MISSING = -1;

        private final int[][] items = new int[ROWS][ITEMS];
        private final int[] lanes = new int[ROWS];
        private final int[] sizes = new int[ROWS];

        Shelf() {
            for (int r = 0; r < ROWS; r++) {
                sizes[r] = MISSING;
            }
        }

        static boolean holds(int row) {
            return within(row, 0, ROWS - 1);
        }

        boolean isMissing(int row) {
            return sizes[row] == MISSING;
        }

        void lay(int row, int lane, int n) {
            lanes[row] = lane;
            sizes[row] = n;
            for (int i = 0; i < n; i++) {
                items[row][i] = 0;
            }
        }

        int takeAway(int row) {
            int size = sizes[row];
            sizes[row] = MISSING;
            return size;
        }

        int put(int row, int i, int v) {
            if (lanes[row] == 0) {
                items[row][i] = (byte) v;
            } else {
                items[row][i] = lanes[row] == 1 ? (short) v : v;
            }
            return items[row][i];
        }

        int itemAt(int row, int i) {
            return items[row][i];
        }

        int findingOf(int row, int i, int n) {
            if (isMissing(row)) {
                return NULL;
            }
            return isSpan(row, i, n) ? NO_FINDING : PLACE;
        }

        int findingOfMove(int a, int i, int b, int j, int n) {
            if (isMissing(a) || isMissing(b)) {
                return NULL;
            }
            if (lanes[a] != lanes[b]) {
                return STORE;
            }
            return isSpan(a, i, n) && isSpan(b, j, n) ? NO_FINDING : PLACE;
        }

        void move(int a, int i, int b, int j, int n) {
            System.arraycopy(items[a], i, items[b], j, n);
        }

        int rowsThere() {
            int there = 0;
            for (int r = 0; r < ROWS; r++) {
                there += isMissing(r) ? 0 : 1;
            }
            return there;
        }

        /** The end is looked at by a difference, which cannot run over as a sum could. */
        private boolean isSpan(int row, int i, int n) {
            return i >= 0 && n >= 0 && i <= sizes[row] && n <= sizes[row] - i;
        }
    }

    /** A town, its rota and its days; one without grandmothers stands for no town. */
    private static final class Town {
        static final int CELLS = 5 + 3 * CHILDREN + 6 * GRANS;

        int eats;
        int parts;
        int children;
        int grans;
        int day;
        final int[] fed = new int[CHILDREN];
        final int[] spoilt = new int[CHILDREN];
        final int[] told = new int[CHILDREN];
        final int[] sort = new int[GRANS];
        final int[] art = new int[GRANS];
        final int[] first = new int[GRANS];
        final int[] step = new int[GRANS];
        final int[] ill = new int[GRANS];
        final int[] foes = new int[GRANS];
        private final int[] host = new int[GRANS];
        private final int[] guests = new int[CHILDREN];

        boolean hasChild(int child) {
            return child >= 0 && child < children;
        }

        boolean hasGran(int gran) {
            return gran >= 0 && gran < grans;
        }

        int allChildren() {
            return (1 << children) - 1;
        }

        void save(int[] cells) {
            cells[0] = eats;
            cells[1] = parts;
            cells[2] = children;
            cells[3] = grans;
            cells[4] = day;
            int at = 5;
            for (int c = 0; c < CHILDREN; c++) {
                cells[at++] = fed[c];
                cells[at++] = spoilt[c];
                cells[at++] = told[c];
            }
            for (int g = 0; g < GRANS; g++) {
                cells[at++] = sort[g];
                cells[at++] = art[g];
                cells[at++] = first[g];
                cells[at++] = step[g];
                cells[at++] = ill[g];
                cells[at++] = foes[g];
            }
        }

        void load(int[] cells) {
            eats = cells[0];
            parts = cells[1];
            children = cells[2];
            grans = cells[3];
            day = cells[4];
            int at = 5;
            for (int c = 0; c < CHILDREN; c++) {
                fed[c] = cells[at++];
                spoilt[c] = cells[at++];
                told[c] = cells[at++];
            }
            for (int g = 0; g < GRANS; g++) {
                sort[g] = cells[at++];
                art[g] = cells[at++];
                first[g] = cells[at++];
                step[g] = cells[at++];
                ill[g] = cells[at++];
                foes[g] = cells[at++];
            }
        }

        /** Sickness only ever runs out, so later days can be told without living through those between. */
        int hostOf(int gran, int later) {
            if (children < 1 || ill[gran] > later) {
                return NONE;
            }
            return (first[gran] + step[gran] * (day + later)) % children;
        }

        private void seat(int later) {
            for (int c = 0; c < children; c++) {
                guests[c] = 0;
            }
            for (int g = 0; g < grans; g++) {
                host[g] = hostOf(g, later);
                if (host[g] != NONE) {
                    guests[host[g]] |= 1 << g;
                }
            }
        }

        private boolean brings(int gran) {
            return host[gran] != NONE && (guests[host[gran]] & foes[gran]) == 0;
        }

        int guestsOf(int child) {
            seat(0);
            return guests[child];
        }

        int lostOn(int later) {
            seat(later);
            int lost = 0;
            for (int g = 0; g < grans; g++) {
                lost |= host[g] != NONE && !brings(g) ? 1 << g : 0;
            }
            return lost;
        }

        int servedIn(int n) {
            int served = 0;
            for (int d = 0; d < n; d++) {
                served |= servedOn(d);
            }
            return served;
        }

        int servedOn(int later) {
            seat(later);
            int served = 0;
            for (int g = 0; g < grans; g++) {
                served |= brings(g) ? 1 << host[g] : 0;
            }
            return served;
        }

        /** Whether one of these, all with one child, quarrels with none of the others. */
        boolean hasPeaceful(int together) {
            for (int g = 0; g < grans; g++) {
                if (((together >> g) & 1) == 1 && (together & foes[g]) == 0) {
                    return true;
                }
            }
            return false;
        }

        void passDays(int n) {
            for (int d = 0; d < n; d++) {
                passDay();
            }
        }

        void passDay() {
            seat(0);
            for (int g = 0; g < grans; g++) {
                if (brings(g)) {
                    visit(g, host[g]);
                }
            }
            for (int c = 0; c < children; c++) {
                addFed(c, -eats);
            }
            day++;
            for (int g = 0; g < grans; g++) {
                ill[g] = Math.max(ill[g] - 1, 0);
            }
        }

        private void visit(int gran, int child) {
            switch (sort[gran]) {
                case SOUP:
                    addFed(child, art[gran]);
                    break;
                case COOK:
                    addFed(child, 2 * art[gran]);
                    addSpoilt(child, 1);
                    break;
                case TELLER:
                    addFed(child, art[gran] / 2);
                    told[child] |= parts < 1 ? 0 : 1 << ((art[gran] + day) % parts);
                    break;
                case STERN:
                    addSpoilt(child, -art[gran]);
                    break;
                case SHAWL:
                    addSpoilt(child, -art[gran]);
                    addFed(child, 1);
                    break;
                default:
                    break;
            }
        }

        private void addFed(int child, int more) {
            fed[child] = Math.max(0, Math.min(MOST_FED, fed[child] + more));
        }

        void addSpoilt(int child, int more) {
            spoilt[child] = Math.max(0, Math.min(MOST_SPOILT, spoilt[child] + more));
        }

        int daysToWhole(int child) {
            int all = (1 << parts) - 1;
            for (int d = 0; d <= FAR; d++) {
                if (told[child] == all) {
                    return d;
                }
                passDay();
            }
            return NONE;
        }

        void fallIll(long x) {
            if (grans > 0) {
                ill[(int) (x % grans)] = (int) (x % 5);
            }
        }

        static int sumOf(int[] numbers, int many) {
            int sum = 0;
            for (int i = 0; i < many; i++) {
                sum += numbers[i];
            }
            return sum;
        }
    }

    /** The acts that can be undone: the town as it was ahead of each, in a ring whose oldest is overwritten. */
    private static final class Acts {
        private final int[][] before = new int[ACTS][Town.CELLS];
        private int oldest;
        int kept;

        void forget() {
            kept = 0;
        }

        void keep(Town town) {
            town.save(before[(oldest + kept) % ACTS]);
            if (kept < ACTS) {
                kept++;
            } else {
                oldest = (oldest + 1) % ACTS;
            }
        }

        boolean takeBack(Town town) {
            if (kept == 0) {
                return false;
            }
            kept--;
            town.load(before[(oldest + kept) % ACTS]);
            return true;
        }
    }

    /** The tape, and the town that is read from it into a draft, so that a fault leaves the old town alone. */
    private static final class Reader {
        private static final int CANNOT_STAND = 1, NOT_AS_TOLD = 2, NO_ROOM = 3;

        final Town draft = new Town();
        int length;
        int place;
        private final int[] tape = new int[TAPE];
        private int at;
        private int fault;

        boolean append(int letter) {
            if (length >= TAPE) {
                return false;
            }
            tape[length++] = letter;
            return true;
        }

        /** The number of the fault, whose place is kept; 0: there is none. */
        int readAll() {
            at = 0;
            fault = 0;
            place = 0;
            draft.children = 0;
            draft.grans = 0;
            readLaw();
            readChildren();
            readGrans();
            length = 0;
            return fault;
        }

        private void readLaw() {
            takeSign('l');
            draft.eats = takeNumber(0, 9);
            takeSign(',');
            draft.parts = takeNumber(1, 6);
            takeSign(';');
        }

        private void readChildren() {
            for (int c = 0; c < CHILDREN && fault == 0 && (c == 0 || nextByte() == 'c'); c++) {
                takeSign('c');
                draft.fed[c] = takeNumber(0, 60);
                takeSign(',');
                draft.spoilt[c] = takeNumber(0, MOST_SPOILT);
                takeSign(';');
                draft.told[c] = 0;
                draft.children = c + 1;
            }
            if (draft.children == CHILDREN && nextByte() == 'c') {
                fail(NO_ROOM);
            }
        }

        private void readGrans() {
            for (int g = 0; g < GRANS && fault == 0 && (g == 0 || at < length); g++) {
                draft.sort[g] = takeSort();
                draft.art[g] = takeNumber(1, 9);
                takeSign(',');
                draft.first[g] = takeNumber(0, draft.children - 1);
                takeSign(',');
                draft.step[g] = takeNumber(0, MOST_STEP);
                takeSign(';');
                draft.ill[g] = 0;
                draft.foes[g] = 0;
                draft.grans = g + 1;
            }
            if (at < length) {
                fail(sortOf(nextByte()) == 0 ? CANNOT_STAND : NO_ROOM);
            }
        }

        private int nextByte() {
            return at < length ? tape[at] : -1;
        }

        /** Only the first fault counts: once there is one, nothing more is taken. */
        private void fail(int number) {
            if (fault == 0) {
                fault = number;
                place = at;
            }
        }

        private void takeSign(int sign) {
            if (nextByte() != sign) {
                fail(CANNOT_STAND);
            } else if (fault == 0) {
                at++;
            }
        }

        private int takeSort() {
            int sort = sortOf(nextByte());
            if (sort == 0) {
                fail(CANNOT_STAND);
            } else if (fault == 0) {
                at++;
            }
            return sort;
        }

        private int takeNumber(int least, int most) {
            int value = 0;
            int figures = 0;
            for (int i = at; i < length && within(tape[i], '0', '9'); i++) {
                value = figures < 2 ? 10 * value + tape[i] - '0' : value;
                figures++;
            }
            if (figures < 1 || figures > 2) {
                fail(CANNOT_STAND);
            } else if (!within(value, least, most)) {
                fail(NOT_AS_TOLD);
            } else if (fault == 0) {
                at += figures;
            }
            return value;
        }

        private static int sortOf(int letter) {
            switch (letter) {
                case 's': return SOUP;
                case 'o': return COOK;
                case 't': return TELLER;
                case 'n': return STERN;
                case 'w': return SHAWL;
                default: return 0;
            }
        }
    }

    /**
     * The rota with the fewest changes: for 0 changes, then 1, and so on, all ways in their order, so that the
     * first that serves is the one that is asked for. Ways that cannot serve even without quarrels are cut off.
     */
    private static final class Rota {
        final Town town = new Town();
        private final int[] was = new int[GRANS];
        private final int[] reach = new int[GRANS * CHILDREN];
        private final int[] reachFrom = new int[GRANS + 1];
        private int wanted;
        private int span;

        /** The town is left with the way that was found. */
        int fewestChanges(int[] cells, int children, int n) {
            town.load(cells);
            wanted = children;
            span = Math.min(n, longestIll() + town.children);
            noteReach();
            for (int changes = 0; changes <= town.grans; changes++) {
                if (place(0, changes, 0)) {
                    return changes;
                }
            }
            return NONE;
        }

        /** Once all are well the days come again by the number of children: no more of them need be looked at. */
        private int longestIll() {
            int longest = 0;
            for (int g = 0; g < town.grans; g++) {
                longest = Math.max(longest, town.ill[g]);
            }
            return longest;
        }

        private void noteReach() {
            reachFrom[town.grans] = 0;
            for (int g = town.grans - 1; g >= 0; g--) {
                was[g] = town.first[g];
                reachFrom[g] = reachFrom[g + 1];
                for (int c = 0; c < town.children; c++) {
                    town.first[g] = c;
                    reach[g * CHILDREN + c] = visited(g);
                    reachFrom[g] |= reach[g * CHILDREN + c];
                }
                town.first[g] = was[g];
            }
        }

        private int visited(int g) {
            int children = 0;
            for (int d = 0; d < span; d++) {
                int host = town.hostOf(g, d);
                children |= host == NONE ? 0 : 1 << host;
            }
            return children;
        }

        /** Goes as deep as there are grandmothers. */
        private boolean place(int g, int changes, int reached) {
            if (changes > town.grans - g || (wanted & ~(reached | reachFrom[g])) != 0) {
                return false;
            }
            if (g >= town.grans) {
                return (wanted & ~town.servedIn(span)) == 0;
            }
            for (int c = 0; c < town.children; c++) {
                int cost = c == was[g] ? 0 : 1;
                town.first[g] = c;
                if (cost <= changes && place(g + 1, changes - cost, reached | reach[g * CHILDREN + c])) {
                    return true;
                }
            }
            town.first[g] = was[g];
            return false;
        }
    }

    /**
     * The asks of one grandmother, by bodies. Soups ask only soups within, and stern ones only stern ones, since
     * both are asked of the same grandmother anew: so no body can come back to itself.
     */
    private static final class Asker {
        final int[] bodies = new int[TRACED];
        int length;
        private int one;
        private int kind;
        private int art;
        private int first;

        void turnTo(int gran, Town town) {
            length = 0;
            one = gran;
            kind = town.sort[gran];
            art = town.art[gran];
            first = town.first[gran];
        }

        int sizeAsked() {
            if (kind == COOK) {
                begin(12);
                return -sizeOfSoup();
            }
            return isOfKind(kind, SOUP) ? sizeOfSoup() : sizeOfStern();
        }

        int markAsked() {
            return isOfKind(kind, SOUP) ? markOfSoup() : markOfStern();
        }

        private int sizeOfSoup() {
            begin(11);
            return sizeLent() + markOfSoup();
        }

        private int sizeOfStern() {
            if (kind == SHAWL) {
                begin(14);
                return 2 * sizeOfAnyStern();
            }
            return sizeOfAnyStern();
        }

        private int sizeOfAnyStern() {
            begin(13);
            return sizeLent() - 100;
        }

        private int sizeLent() {
            begin(10);
            return art;
        }

        private int markOfSoup() {
            if (kind == TELLER) {
                begin(22);
                return markOfAnySoup() - 1000;
            }
            if (kind == COOK) {
                begin(24);
                return 2 * markOfAnySoup();
            }
            return markOfAnySoup();
        }

        private int markOfAnySoup() {
            begin(21);
            return markLent() + first;
        }

        private int markOfStern() {
            begin(23);
            return markLent() - sizeOfStern();
        }

        private int markLent() {
            begin(20);
            return one;
        }

        private void begin(int body) {
            if (length < TRACED) {
                bodies[length++] = body;
            }
        }
    }
}
