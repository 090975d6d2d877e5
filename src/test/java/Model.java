import java.math.BigInteger;
import java.util.ArrayDeque;
import java.util.ArrayList;
import java.util.Arrays;
import java.util.Deque;
import java.util.List;
import java.util.function.Consumer;
import java.util.function.ToIntFunction;

/**
 * The document once more, by other means and with no thought of speed: days are always lived through, ways are always
 * all gone through, asks are real methods of real classes. ModelTest holds the program against it.
 */
final class Model {
    static final int NONE = -1000000, BAD = -1000001, STATE = -1000002, FULL = -1000003;
    static final int NULL = -1000011, PLACE = -1000012, KIND = -1000013, SIZE = -1000014, STORE = -1000015;

    interface Asked {
        List<Integer> trace();

        int art();

        int number();

        int first();

        default int size() {
            trace().add(10);
            return art();
        }

        default int mark() {
            trace().add(20);
            return number();
        }
    }

    static class Gran implements Asked {
        final List<Integer> trace;
        final int[] data;

        Gran(List<Integer> trace, int number, int art, int first) {
            this.trace = trace;
            this.data = new int[] {number, art, first};
        }

        public List<Integer> trace() {
            return trace;
        }

        public int number() {
            return data[0];
        }

        public int art() {
            return data[1];
        }

        public int first() {
            return data[2];
        }

        int lentSize() {
            return Asked.super.size();
        }

        int lentMark() {
            return Asked.super.mark();
        }
    }

    static class Soup extends Gran {
        Soup(List<Integer> t, int n, int a, int f) {
            super(t, n, a, f);
        }

        public int size() {
            trace.add(11);
            int ten = lentSize();
            return ten + mark();
        }

        public int mark() {
            trace.add(21);
            return lentMark() + first();
        }
    }

    static final class Cook extends Soup {
        Cook(List<Integer> t, int n, int a, int f) {
            super(t, n, a, f);
        }

        public int size() {
            trace.add(12);
            return 0 - super.size();
        }

        public int mark() {
            trace.add(24);
            return super.mark() * 2;
        }
    }

    static final class Teller extends Soup {
        Teller(List<Integer> t, int n, int a, int f) {
            super(t, n, a, f);
        }

        public int mark() {
            trace.add(22);
            return super.mark() - 1000;
        }
    }

    static class Stern extends Gran {
        Stern(List<Integer> t, int n, int a, int f) {
            super(t, n, a, f);
        }

        public int size() {
            trace.add(13);
            return lentSize() - 100;
        }

        public int mark() {
            trace.add(23);
            int twenty = lentMark();
            return twenty - size();
        }
    }

    static final class Shawl extends Stern {
        Shawl(List<Integer> t, int n, int a, int f) {
            super(t, n, a, f);
        }

        public int size() {
            trace.add(14);
            return super.size() * 2;
        }
    }

    static final Class<?>[] KINDS = {Gran.class, Soup.class, Cook.class, Teller.class, Stern.class, Shawl.class};

    static final class Old {
        char letter;
        int art, first, step, ill;

        Old twin() {
            Old o = new Old();
            o.letter = letter;
            o.art = art;
            o.first = first;
            o.step = step;
            o.ill = ill;
            return o;
        }

        int kind() {
            return "-sotnw".indexOf(letter);
        }

        Gran asGran(List<Integer> t, int n) {
            switch (letter) {
                case 's': return new Soup(t, n, art, first);
                case 'o': return new Cook(t, n, art, first);
                case 't': return new Teller(t, n, art, first);
                case 'n': return new Stern(t, n, art, first);
                default: return new Shawl(t, n, art, first);
            }
        }
    }

    static final class Kid {
        int fed, spoilt;
        boolean[] told = new boolean[6];

        Kid twin() {
            Kid k = new Kid();
            k.fed = fed;
            k.spoilt = spoilt;
            k.told = told.clone();
            return k;
        }

        int toldBits() {
            int bits = 0;
            for (int p = 0; p < 6; p++) {
                bits += told[p] ? 1 << p : 0;
            }
            return bits;
        }
    }

    static final class World {
        int eats, parts, day;
        List<Kid> kids = new ArrayList<>();
        List<Old> olds = new ArrayList<>();
        boolean[][] foes = new boolean[6][6];

        World twin() {
            World w = new World();
            w.eats = eats;
            w.parts = parts;
            w.day = day;
            kids.forEach(k -> w.kids.add(k.twin()));
            olds.forEach(o -> w.olds.add(o.twin()));
            for (int i = 0; i < 6; i++) {
                w.foes[i] = foes[i].clone();
            }
            return w;
        }

        int with(int g) {
            Old o = olds.get(g);
            return o.ill > 0 ? NONE : (o.first + o.step * day) % kids.size();
        }

        boolean lost(int g) {
            for (int h = 0; h < olds.size(); h++) {
                if (with(g) != NONE && foes[g][h] && with(g) == with(h)) {
                    return true;
                }
            }
            return false;
        }

        int lostNow() {
            int n = 0;
            for (int g = 0; g < olds.size(); g++) {
                n += lost(g) ? 1 : 0;
            }
            return n;
        }

        boolean served(int c) {
            for (int g = 0; g < olds.size(); g++) {
                if (with(g) == c && !lost(g)) {
                    return true;
                }
            }
            return false;
        }

        void live() {
            for (int g = 0; g < olds.size(); g++) {
                if (with(g) == NONE || lost(g)) {
                    continue;
                }
                Old o = olds.get(g);
                Kid k = kids.get(with(g));
                int food = 0, sugar = 0;
                if (o.letter == 's') {
                    food = o.art;
                } else if (o.letter == 'o') {
                    food = o.art + o.art;
                    sugar = 1;
                } else if (o.letter == 't') {
                    food = (o.art - o.art % 2) / 2;
                    k.told[(o.art + day) % parts] = true;
                } else {
                    sugar = -o.art;
                    food = o.letter == 'w' ? 1 : 0;
                }
                k.fed = k.fed + food > 99 ? 99 : k.fed + food;
                k.spoilt = k.spoilt + sugar > 20 ? 20 : k.spoilt + sugar < 0 ? 0 : k.spoilt + sugar;
            }
            for (Kid k : kids) {
                k.fed = k.fed < eats ? 0 : k.fed - eats;
            }
            day++;
            for (Old o : olds) {
                o.ill -= o.ill > 0 ? 1 : 0;
            }
        }

        World after(int n) {
            World w = twin();
            for (int i = 0; i < n; i++) {
                w.live();
            }
            return w;
        }

        int firstDay(ToIntFunction<World> holds) {
            World w = twin();
            for (int d = 0; d <= 60; d++) {
                if (holds.applyAsInt(w) != 0) {
                    return d;
                }
                w.live();
            }
            return NONE;
        }

        int servedIn(int n) {
            int bits = 0;
            World w = twin();
            for (int d = 0; d < n; d++) {
                for (int c = 0; c < kids.size(); c++) {
                    bits |= w.served(c) ? 1 << c : 0;
                }
                w.live();
            }
            return bits;
        }

        int total(ToIntFunction<Kid> of) {
            return kids.stream().mapToInt(of).sum();
        }
    }

    static final int[] BITS = {8, 16, 32};

    long[][] rows = new long[8][];
    int[] lanes = new int[8];
    StringBuilder tape = new StringBuilder();
    int fault;
    int status;
    World world;
    Deque<World> acts = new ArrayDeque<>();
    World[] images = new World[2];
    List<Integer> trace = new ArrayList<>();

    private static boolean in(int n, int a, int b) {
        return a <= n && n <= b;
    }

    private boolean kid(int c) {
        return world != null && in(c, 0, world.kids.size() - 1);
    }

    private boolean old(int g) {
        return world != null && in(g, 0, world.olds.size() - 1);
    }

    private int note(int answer) {
        status = answer <= NULL && answer >= STORE ? -1000010 - answer : 0;
        return answer;
    }

    private void act() {
        acts.push(world.twin());
        if (acts.size() > 24) {
            acts.removeLast();
        }
    }

    int row(int r, int lane, int n) {
        if (!in(r, 0, 7) || !in(lane, 0, 2) || n > 40) {
            return BAD;
        }
        if (n < 0) {
            return note(SIZE);
        }
        rows[r] = new long[n];
        lanes[r] = lane;
        return note(n);
    }

    int set(int r, int i, int v) {
        if (!in(r, 0, 7)) {
            return BAD;
        }
        if (rows[r] == null) {
            return note(NULL);
        }
        if (!in(i, 0, rows[r].length - 1)) {
            return note(PLACE);
        }
        long span = 1L << BITS[lanes[r]];
        long low = Math.floorMod((long) v, span);
        rows[r][i] = low >= span / 2 ? low - span : low;
        status = 0;
        return (int) rows[r][i];
    }

    int copy(int a, int i, int b, int j, int n) {
        if (!in(a, 0, 7) || !in(b, 0, 7)) {
            return BAD;
        }
        if (rows[a] == null || rows[b] == null) {
            return note(NULL);
        }
        if (lanes[a] != lanes[b]) {
            return note(STORE);
        }
        if (i < 0 || j < 0 || n < 0 || (long) i + n > rows[a].length || (long) j + n > rows[b].length) {
            return note(PLACE);
        }
        long[] taken = Arrays.copyOfRange(rows[a], i, i + n);
        for (int t = 0; t < n; t++) {
            rows[b][j + t] = taken[t];
        }
        return note(n);
    }

    int drop(int r) {
        if (!in(r, 0, 7)) {
            return BAD;
        }
        if (rows[r] == null) {
            return note(NULL);
        }
        int had = rows[r].length;
        rows[r] = null;
        return note(had);
    }

    int feed(int letter) {
        if (!in(letter, 0, 255)) {
            return BAD;
        }
        if (tape.length() == 100) {
            return FULL;
        }
        tape.append((char) letter);
        return tape.length();
    }

    private static final class Fault extends Exception {
        private static final long serialVersionUID = 1L;

        final int number, place;

        Fault(int number, int place) {
            this.number = number;
            this.place = place;
        }
    }

    private static final class Token {
        final int place;
        final String text;

        Token(int place, String text) {
            this.place = place;
            this.text = text;
        }
    }

    private static List<Token> cut(String text) {
        List<Token> tokens = new ArrayList<>();
        int i = 0;
        while (i < text.length()) {
            int j = i + 1;
            if (Character.isDigit(text.charAt(i))) {
                while (j < text.length() && Character.isDigit(text.charAt(j))) {
                    j++;
                }
            }
            tokens.add(new Token(i, text.substring(i, j)));
            i = j;
        }
        tokens.add(new Token(text.length(), ""));
        return tokens;
    }

    private static void expect(Token t, String text) throws Fault {
        if (!t.text.equals(text)) {
            throw new Fault(1, t.place);
        }
    }

    private static int number(Token t, int least, int most) throws Fault {
        if (!t.text.matches("[0-9]{1,2}")) {
            throw new Fault(1, t.place);
        }
        int n = Integer.parseInt(t.text);
        if (n < least || n > most) {
            throw new Fault(2, t.place);
        }
        return n;
    }

    private static World parse(String text) throws Fault {
        List<Token> tokens = cut(text);
        java.util.Iterator<Token> it = tokens.iterator();
        World w = new World();
        expect(it.next(), "l");
        w.eats = number(it.next(), 0, 9);
        expect(it.next(), ",");
        w.parts = number(it.next(), 1, 6);
        expect(it.next(), ";");
        Token head = it.next();
        while (head.text.equals("c")) {
            if (w.kids.size() == 5) {
                throw new Fault(3, head.place);
            }
            Kid k = new Kid();
            k.fed = number(it.next(), 0, 60);
            expect(it.next(), ",");
            k.spoilt = number(it.next(), 0, 20);
            expect(it.next(), ";");
            w.kids.add(k);
            head = it.next();
        }
        if (w.kids.isEmpty()) {
            throw new Fault(1, head.place);
        }
        while (w.olds.isEmpty() || !head.text.isEmpty()) {
            if (!head.text.matches("[sotnw]")) {
                throw new Fault(1, head.place);
            }
            if (w.olds.size() == 6) {
                throw new Fault(3, head.place);
            }
            Old o = new Old();
            o.letter = head.text.charAt(0);
            o.art = number(it.next(), 1, 9);
            expect(it.next(), ",");
            o.first = number(it.next(), 0, w.kids.size() - 1);
            expect(it.next(), ",");
            o.step = number(it.next(), 0, 4);
            expect(it.next(), ";");
            w.olds.add(o);
            head = it.next();
        }
        return w;
    }

    int town() {
        String text = tape.toString();
        tape.setLength(0);
        try {
            world = parse(text);
        } catch (Fault f) {
            fault = f.number;
            return -1000100 - f.place;
        }
        acts.clear();
        return world.olds.size();
    }

    int fault() {
        return fault;
    }

    int undo() {
        if (acts.isEmpty()) {
            return STATE;
        }
        world = acts.pop();
        return acts.size();
    }

    int days(int n) {
        if (world == null) {
            return STATE;
        }
        if (!in(n, 1, 24)) {
            return BAD;
        }
        if (world.day + n > 999) {
            return FULL;
        }
        for (int i = 0; i < n; i++) {
            act();
            world.live();
        }
        return world.day;
    }

    int sick(int g, int n) {
        if (!old(g) || !in(n, 0, 60)) {
            return BAD;
        }
        act();
        int was = world.olds.get(g).ill;
        world.olds.get(g).ill = n;
        return was;
    }

    int swap(int g, int c) {
        if (!old(g) || !kid(c)) {
            return BAD;
        }
        act();
        int was = world.olds.get(g).first;
        world.olds.get(g).first = c;
        return was;
    }

    int pace(int g, int n) {
        if (!old(g) || !in(n, 0, 4)) {
            return BAD;
        }
        act();
        int was = world.olds.get(g).step;
        world.olds.get(g).step = n;
        return was;
    }

    private int foes(int g) {
        int bits = 0;
        for (int h = 0; h < 6; h++) {
            bits |= world.foes[g][h] ? 1 << h : 0;
        }
        return bits;
    }

    int quarrel(int g, int h, int on) {
        if (!old(g) || !old(h) || g == h || !in(on, 0, 1)) {
            return BAD;
        }
        if (world.foes[g][h] == (on == 1)) {
            return STATE;
        }
        act();
        world.foes[g][h] = on == 1;
        world.foes[h][g] = on == 1;
        return foes(g);
    }

    int spoil(int c, int n) {
        if (!kid(c) || !in(n, 1, 20)) {
            return BAD;
        }
        act();
        Kid k = world.kids.get(c);
        k.spoilt = Math.min(20, k.spoilt + n);
        return k.spoilt;
    }

    int gran(int g, int what) {
        if (!old(g) || !in(what, 0, 6)) {
            return BAD;
        }
        Old o = world.olds.get(g);
        return new int[] {o.art, o.first, o.step, o.ill, world.with(g), world.lost(g) ? 1 : 0, foes(g)}[what];
    }

    int child(int c, int what) {
        if (!kid(c) || !in(what, 0, 3)) {
            return BAD;
        }
        Kid k = world.kids.get(c);
        int by = 0;
        for (int g = 0; g < world.olds.size(); g++) {
            by |= world.with(g) == c ? 1 << g : 0;
        }
        return new int[] {k.fed, k.spoilt, k.toldBits(), by}[what];
    }

    int ahead(int c, int n, int what) {
        if (!kid(c) || !in(n, 0, 60) || !in(what, 0, 2)) {
            return BAD;
        }
        Kid k = world.after(n).kids.get(c);
        return new int[] {k.fed, k.spoilt, k.toldBits()}[what];
    }

    int withWhom(int g, int n) {
        return !old(g) || !in(n, 0, 60) ? BAD : world.after(n).with(g);
    }

    private static int wholeIn(World w, int c) {
        return w.firstDay(x -> x.kids.get(c).toldBits() == (1 << x.parts) - 1 ? 1 : 0);
    }

    int whole(int c) {
        return kid(c) ? wholeIn(world, c) : BAD;
    }

    int hungry(int c) {
        return kid(c) ? world.firstDay(x -> x.kids.get(c).fed == 0 ? 1 : 0) : BAD;
    }

    int without(int n) {
        if (world == null) {
            return STATE;
        }
        return in(n, 1, 60) ? (1 << world.kids.size()) - 1 - world.servedIn(n) : BAD;
    }

    int rota(int children, int n, int k) {
        if (world == null) {
            return STATE;
        }
        int many = world.olds.size();
        int size = world.kids.size();
        if (!in(children, 0, (1 << size) - 1) || !in(n, 1, 14) || !in(k, -1, many - 1)) {
            return BAD;
        }
        int ways = (int) Math.pow(size, many);
        int fewest = Integer.MAX_VALUE;
        int[] best = null;
        World w = world.twin();
        for (int way = 0; way < ways; way++) {
            int rest = way;
            int changes = 0;
            for (int g = many - 1; g >= 0; g--) {
                w.olds.get(g).first = rest % size;
                changes += rest % size == world.olds.get(g).first ? 0 : 1;
                rest /= size;
            }
            if (changes < fewest && (w.servedIn(n) & children) == children) {
                fewest = changes;
                best = w.olds.stream().mapToInt(o -> o.first).toArray();
            }
        }
        if (best == null) {
            return NONE;
        }
        return k == -1 ? fewest : best[k];
    }

    int meets(int g, int h) {
        if (!old(g) || !old(h) || g == h) {
            return BAD;
        }
        return world.firstDay(x -> x.with(g) != NONE && x.with(g) == x.with(h) ? 1 : 0);
    }

    int lost(int n) {
        if (world == null) {
            return STATE;
        }
        if (!in(n, 1, 60)) {
            return BAD;
        }
        int sum = 0;
        for (int d = 0; d < n; d++) {
            sum += world.after(d).lostNow();
        }
        return sum;
    }

    private World changed(Consumer<World> by) {
        World w = world.twin();
        by.accept(w);
        return w;
    }

    int swaps(int n, int what) {
        if (world == null) {
            return STATE;
        }
        if (!in(n, 1, 60) || !in(what, 0, 1)) {
            return BAD;
        }
        List<Integer> good = new ArrayList<>();
        World plain = world.after(n);
        for (int pair = 0; pair < 60; pair++) {
            int a = pair / 10;
            int b = pair % 10;
            if (a >= b || !old(b)) {
                continue;
            }
            World w = changed(x -> {
                x.olds.get(a).first = world.olds.get(b).first;
                x.olds.get(b).first = world.olds.get(a).first;
            }).after(n);
            int less = 0;
            int more = 0;
            for (int c = 0; c < w.kids.size(); c++) {
                less += w.kids.get(c).fed < plain.kids.get(c).fed ? 1 : 0;
                more += w.kids.get(c).fed > plain.kids.get(c).fed ? 1 : 0;
            }
            if (less == 0 && more > 0) {
                good.add(pair);
            }
        }
        if (what == 0) {
            return good.size();
        }
        return good.isEmpty() ? NONE : good.get(0);
    }

    int soon(int c, int what) {
        if (!kid(c) || !in(what, 0, 1)) {
            return BAD;
        }
        int[] best = {NONE, NONE};
        for (int g = world.olds.size() - 1; g >= 0; g--) {
            final int who = g;
            int days = wholeIn(changed(x -> x.olds.get(who).first = c), c);
            if (days != NONE && (best[1] == NONE || days <= best[1])) {
                best = new int[] {g, days};
            }
        }
        return best[what];
    }

    private int told(int c, int g, int r, int i, int n) {
        if (!kid(c) || !old(g) || !in(r, 0, 7) || !in(n, 1, 12)) {
            return BAD;
        }
        if (rows[r] == null) {
            return note(NULL);
        }
        return note(i < 0 || (long) i + n > rows[r].length ? PLACE : 0);
    }

    private boolean fits(World w, int c, int r, int i, int n) {
        for (int d = 1; d <= n; d++) {
            if (w.after(d).kids.get(c).fed != rows[r][i + d - 1]) {
                return false;
            }
        }
        return true;
    }

    int who(int c, int g, int r, int i, int n) {
        int bits = told(c, g, r, i, n);
        for (int k = 1; k <= 5 && bits >= 0; k++) {
            char letter = "-sotnw".charAt(k);
            bits += fits(changed(x -> x.olds.get(g).letter = letter), c, r, i, n) ? 1 << k : 0;
        }
        return bits;
    }

    int firsts(int c, int g, int r, int i, int n) {
        int bits = told(c, g, r, i, n);
        for (int f = 0; bits >= 0 && f < world.kids.size(); f++) {
            final int start = f;
            bits += fits(changed(x -> x.olds.get(g).first = start), c, r, i, n) ? 1 << f : 0;
        }
        return bits;
    }

    int steps(int c, int g, int r, int i, int n) {
        int bits = told(c, g, r, i, n);
        for (int s = 0; bits >= 0 && s <= 4; s++) {
            final int step = s;
            bits += fits(changed(x -> x.olds.get(g).step = step), c, r, i, n) ? 1 << s : 0;
        }
        return bits;
    }

    int even(int n) {
        if (world == null) {
            return STATE;
        }
        if (!in(n, 0, 60)) {
            return BAD;
        }
        int[] fed = world.after(n).kids.stream().mapToInt(k -> k.fed).sorted().toArray();
        return fed[fed.length - 1] - fed[0];
    }

    long fever(int c, int p, int what) {
        if (!kid(c) || !in(p, 0, 10) || !in(what, 0, 1)) {
            return BAD;
        }
        int many = world.olds.size();
        BigInteger above = BigInteger.ZERO;
        for (int ill = 0; ill < 1 << many; ill++) {
            World w = world.twin();
            BigInteger weight = BigInteger.ONE;
            for (int g = 0; g < many; g++) {
                boolean falls = (ill >> g & 1) == 1;
                boolean wasIll = w.olds.get(g).ill > 0;
                int cases = wasIll ? (falls ? 10 : 0) : (falls ? p : 10 - p);
                weight = weight.multiply(BigInteger.valueOf(cases));
                w.olds.get(g).ill = falls ? 1 : 0;
            }
            above = w.served(c) ? above.add(weight) : above;
        }
        BigInteger below = BigInteger.TEN.pow(many);
        BigInteger gcd = above.gcd(below);
        return (what == 0 ? above : below).divide(gcd).longValueExact();
    }

    int drawn(int n, int seed, int what) {
        if (world == null) {
            return STATE;
        }
        if (!in(n, 0, 60) || !in(seed, 1, 999999) || !in(what, 0, 1)) {
            return BAD;
        }
        World w = world.twin();
        BigInteger x = BigInteger.valueOf(seed);
        for (int d = 0; d < n; d++) {
            x = x.multiply(BigInteger.valueOf(16807)).mod(BigInteger.valueOf(2147483647));
            long v = x.longValueExact();
            if (v % 4 == 0) {
                w.olds.get((int) (v % w.olds.size())).ill = (int) (v % 5);
            }
            w.live();
        }
        return w.total(k -> what == 0 ? k.fed : k.spoilt);
    }

    int image(int k) {
        if (!in(k, 0, 1)) {
            return BAD;
        }
        if (world == null) {
            return STATE;
        }
        images[k] = world.twin();
        return 1;
    }

    int restore(int k) {
        if (!in(k, 0, 1)) {
            return BAD;
        }
        if (images[k] == null) {
            return STATE;
        }
        world = images[k].twin();
        acts.clear();
        return 1;
    }

    int kind(int one) {
        return old(one) ? world.olds.get(one).kind() : BAD;
    }

    int as(int one, int kind) {
        if (!old(one) || !in(kind, 0, 5)) {
            return BAD;
        }
        return note(KINDS[kind].isInstance(world.olds.get(one).asGran(trace, one)) ? one : KIND);
    }

    int ask(int one, int what) {
        if (!old(one) || !in(what, 0, 1)) {
            return BAD;
        }
        trace = new ArrayList<>();
        Asked gran = world.olds.get(one).asGran(trace, one);
        return what == 0 ? gran.size() : gran.mark();
    }

    int trace(int i) {
        return in(i, 0, Math.min(16, trace.size()) - 1) ? trace.get(i) : NONE;
    }

    int count(int what) {
        if (what == 0) {
            return (int) Arrays.stream(rows).filter(r -> r != null).count();
        }
        if (what == 6) {
            return acts.size();
        }
        if (what == 7) {
            return tape.length();
        }
        if (!in(what, 1, 5)) {
            return BAD;
        }
        if (world == null) {
            return 0;
        }
        return new int[] {0, world.kids.size(), world.olds.size(), world.day, world.total(k -> k.fed),
            world.total(k -> k.spoilt)}[what];
    }

    int status() {
        return status;
    }
}
