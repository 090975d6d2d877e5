import java.util.Arrays;
import java.util.Random;

/** Long runs of drawn calls, answered by the program as by the model, call by call (promises 1 to 41). */
public final class ModelTest {
    private static final int RUNS = 400;
    private static final int CALLS = 512;
    private static final Check CHECK = new Check("ModelTest");
    private static final int KID = -1;
    private static final int GRAN = -2;
    private static final int KIDS = -3;
    private static final int[] ROW = {0, 7};
    private static final int[] CHILD = {0, KID};
    private static final int[] OLD = {0, GRAN};
    private static final int[] TWO = {0, 1};
    private static final int[] FAR = {0, 60};
    private static final int[] SOME = {1, 60};
    private static final int[] PLACE = {0, 9};
    private static final int[] WORTH = {-40000, 40000};
    private static final int[][] TOLD = {CHILD, OLD, ROW, {0, 3}, {1, 4}};
    private static final String[] NAMES = {
        "row", "set", "copy", "drop", "feed", "town", "fault", "undo", "days", "sick", "swap", "pace", "quarrel",
        "quarrel", "quarrel", "spoil", "gran", "child", "ahead", "withWhom", "whole", "hungry", "without", "rota",
        "meets", "lost", "swaps", "soon", "who", "firsts", "steps", "even", "fever", "drawn", "image", "restore",
        "kind", "as", "ask", "trace", "count", "status"};
    private static final int[][][] RANGES = {
        {ROW, {0, 2}, {0, 12}}, {ROW, PLACE, WORTH}, {ROW, PLACE, ROW, PLACE, {0, 6}}, {ROW}, {{0, 255}}, {}, {}, {},
        {{1, 3}}, {OLD, {0, 12}}, {OLD, CHILD}, {OLD, {0, 4}}, {OLD, OLD, TWO}, {OLD, OLD, TWO}, {OLD, OLD, TWO},
        {CHILD, {1, 20}}, {OLD, {0, 6}}, {CHILD, {0, 3}}, {CHILD, FAR, {0, 2}}, {OLD, FAR}, {CHILD}, {CHILD}, {SOME},
        {{0, KIDS}, {1, 14}, {-1, GRAN}}, {OLD, OLD}, {SOME}, {SOME, TWO}, {CHILD, TWO}, TOLD, TOLD, TOLD, {FAR},
        {CHILD, {0, 10}, TWO}, {FAR, {1, 999999}, TWO}, {TWO}, {TWO}, {OLD}, {OLD, {0, 5}}, {OLD, TWO}, {{0, 6}},
        {{0, 7}}, {}};

    public static void main(String[] args) throws Exception {
        int from = args.length > 0 ? Integer.parseInt(args[0]) : 0;
        int runs = args.length > 1 ? Integer.parseInt(args[1]) : RUNS;
        for (int run = from; run < from + runs && CHECK.wrong() == 0; run++) {
            new Run(run).go();
        }
        CHECK.end();
    }

    private static final class Run {
        private final int run;
        private final Random random;
        private final LentGrannies x = new LentGrannies();
        private final Model model = new Model();
        private int calls;
        private int rotas;

        Run(int run) {
            this.run = run;
            this.random = new Random(run * 7919L + 13);
        }

        void go() throws Exception {
            if (random.nextInt(10) > 0) {
                feed(text());
                call("town");
            }
            while (calls < CALLS && CHECK.wrong() == 0) {
                int turn = random.nextInt(100);
                if (turn < 1) {
                    feed(random.nextInt(4) == 0 ? broken(text()) : text());
                    call("town");
                    call("fault");
                } else if (turn < 8) {
                    tellRow();
                } else if (turn < 11 + (run % 20 == 0 ? 20 : 0)) {
                    call("days", 24);
                } else {
                    drawCall();
                }
            }
        }

        private void feed(String text) throws Exception {
            for (int i = 0; i < text.length(); i++) {
                call("feed", text.charAt(i));
            }
        }

        private String text() {
            int kids = 1 + random.nextInt(5);
            StringBuilder s = new StringBuilder();
            s.append('l').append(random.nextInt(10)).append(',').append(1 + random.nextInt(6)).append(';');
            for (int c = 0; c < kids; c++) {
                s.append('c').append(random.nextInt(61)).append(',').append(random.nextInt(21)).append(';');
            }
            int grans = 1 + random.nextInt(6);
            boolean tellers = random.nextInt(3) == 0;
            for (int g = 0; g < grans; g++) {
                s.append(tellers ? 't' : "sotnw".charAt(random.nextInt(5))).append(1 + random.nextInt(9)).append(',');
                s.append(random.nextInt(kids)).append(',').append(random.nextInt(5)).append(';');
            }
            return s.toString();
        }

        private String broken(String text) {
            StringBuilder s = new StringBuilder(text);
            int at = random.nextInt(s.length());
            switch (random.nextInt(5)) {
                case 0:
                    s.deleteCharAt(at);
                    break;
                case 1:
                    s.insert(at, "lcsotnwxA09 ,;".charAt(random.nextInt(14)));
                    break;
                case 2:
                    s.setCharAt(at, "lcsotnwxA09 ,;".charAt(random.nextInt(14)));
                    break;
                case 3:
                    s.setLength(at);
                    break;
                default:
                    s.append(s.substring(s.indexOf(";") + 1));
                    break;
            }
            return s.toString();
        }

        /** A row that tells the truth of one child, or nearly so, so that there is something that fits. */
        private void tellRow() throws Exception {
            int child = random.nextInt(5);
            int n = 1 + random.nextInt(12);
            int row = random.nextInt(8);
            int from = random.nextInt(5);
            call("row", row, random.nextInt(3), from + n);
            for (int d = 0; d < n; d++) {
                call("set", row, from + d, Math.max(0, model.ahead(child, d + 1, 0)));
            }
            if (random.nextInt(4) == 0) {
                call("set", row, from + random.nextInt(n), random.nextInt(60));
            }
            for (String name : Arrays.asList("who", "firsts", "steps")) {
                call(name, child, random.nextInt(6), row, from, n);
            }
        }

        private void drawCall() throws Exception {
            String name = NAMES[random.nextInt(NAMES.length)];
            if (name.equals("town") && random.nextInt(20) > 0 || name.equals("feed") && random.nextInt(4) > 0) {
                return;
            }
            // The model goes through every way of a rota: a few of these each run are enough.
            if (name.equals("rota") && rotas++ > 5) {
                return;
            }
            int[][] ranges = RANGES[Arrays.asList(NAMES).indexOf(name)];
            boolean sensible = random.nextInt(8) > 0;
            int[] numbers = new int[ranges.length];
            for (int i = 0; i < numbers.length; i++) {
                boolean wild = !sensible && random.nextInt(ranges.length) == 0;
                int[] r = {ranges[i][0], Math.max(ranges[i][0], bound(ranges[i][1]))};
                numbers[i] = wild ? number() : r[0] + random.nextInt(r[1] - r[0] + 1);
            }
            call(name, numbers);
        }

        private int bound(int most) {
            if (model.world == null) {
                return Math.max(0, most);
            }
            int kids = model.world.kids.size();
            int grans = model.world.olds.size();
            return most == KID ? kids - 1 : most == GRAN ? grans - 1 : most == KIDS ? (1 << kids) - 1 : most;
        }

        private int number() {
            switch (random.nextInt(16)) {
                case 0: return random.nextInt();
                case 1: return random.nextInt(130) - 30;
                case 2: return random.nextInt(64);
                case 3: return new int[] {Integer.MIN_VALUE, Integer.MAX_VALUE, -1, 40, 41, 60, 61}[random.nextInt(7)];
                case 4:
                case 5:
                case 6: return random.nextInt(14);
                case 7:
                case 8: return random.nextInt(2);
                default: return random.nextInt(7);
            }
        }

        private void call(String name, int... numbers) throws Exception {
            if (calls++ >= CALLS) {
                return;
            }
            Class<?>[] types = new Class<?>[numbers.length];
            Arrays.fill(types, int.class);
            Object[] given = Arrays.stream(numbers).boxed().toArray();
            long want = ((Number) Model.class.getDeclaredMethod(name, types).invoke(model, given)).longValue();
            long got = ((Number) LentGrannies.class.getMethod(name, types).invoke(x, given)).longValue();
            CHECK.due("run " + run + ", call " + calls + ", " + name + Arrays.toString(numbers), got, want);
        }
    }
}
