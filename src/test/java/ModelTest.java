import java.util.Random;

/** Long runs of drawn calls, wrong ones too, on the program and on the plain model: each answer must be the same. */
public final class ModelTest {
    private static final int RUNS = 400, CALLS = 512, LONG_RUNS = 4, LONG_CALLS = 50000;
    private static final String[] CALL = {"copy", "lend", "giveBack", "renew", "lose", "hold", "giveUp", "pass", "set", "drift",
        "undo", "told", "copyOf", "holdOf", "titleOf", "readerOf", "keep", "goBack"};

    /** How often each call is drawn, in two kinds of run: many deeds, and many days with few copies. */
    private static final int[][] OFTEN = {
        {4, 14, 12, 4, 4, 14, 5, 8, 3, 3, 4, 10, 10, 12, 6, 6, 1, 1},
        {1, 8, 6, 2, 1, 20, 3, 12, 1, 4, 1, 10, 10, 14, 6, 6, 0, 0}};

    public static void main(String[] args) {
        for (int run = 0; run < RUNS; run++) {
            runOne(run);
        }
        for (int run = 0; run < LONG_RUNS; run++) {
            runLong(run);
        }
        Script.end();
    }

    /** What an object answers behind its 512th call is free, but rule 7 lets no call throw there either. */
    private static void runLong(int run) {
        Random draw = new Random(-1 - run);
        LoanHouse house = new LoanHouse();
        int holds = 0;
        int ended = 0;
        for (int call = 0; call < LONG_CALLS; call++) {
            int what = drawCall(draw, OFTEN[run % OFTEN.length]);
            int got = call(house, what, drawNumbers(draw, what, holds));
            holds = what == 5 && got >= 0 ? got : holds;
            ended++;
        }
        Script.due("long run " + run + ": calls that ended", ended, LONG_CALLS);
    }

    private static void runOne(int run) {
        Random draw = new Random(run);
        LoanHouse house = new LoanHouse();
        PlainHouse plain = new PlainHouse();
        int holds = 0;
        for (int call = 0; call < CALLS; call++) {
            int what = drawCall(draw, OFTEN[run % OFTEN.length]);
            int[] n = drawNumbers(draw, what, holds);
            int got = call(house, what, n);
            holds = what == 5 && got >= 0 ? got : holds;
            Script.due("run " + run + ", call " + call + ": " + CALL[what] + " " + n[0] + " " + n[1] + " " + n[2] + " " + n[3], got, call(plain, what, n));
        }
        lookAtAll(run, house, plain);
    }

    private static int drawCall(Random draw, int[] often) {
        int all = 0;
        for (int o : often) {
            all += o;
        }
        int rest = draw.nextInt(all);
        int what = 0;
        while (rest >= often[what]) {
            rest -= often[what];
            what++;
        }
        return what;
    }

    private static int[] drawNumbers(Random draw, int what, int holds) {
        int[] n = switch (what) {
            case 0 -> new int[] {draw.nextInt(3), draw.nextInt(4), 0, 0};
            case 1 -> new int[] {draw.nextInt(17), draw.nextInt(10), 0, 0};
            case 2 -> new int[] {draw.nextInt(17), draw.nextInt(4), 0, 0};
            case 5 -> new int[] {draw.nextInt(10), draw.nextInt(3), draw.nextInt(4), draw.nextInt(4)};
            case 6, 13 -> new int[] {Math.max(-1, holds + 2 - draw.nextInt(16)), draw.nextInt(9), 0, 0};
            case 7 -> new int[] {draw.nextInt(10) == 0 ? draw.nextInt(34) - 1 : 1 + draw.nextInt(4), 0, 0, 0};
            case 8 -> new int[] {draw.nextInt(3), draw.nextInt(draw.nextBoolean() ? 130 : 22) - 1, 0, 0};
            case 9 -> new int[] {1 + draw.nextInt(20), 1 + draw.nextInt(999999), 0, 0};
            case 11 -> new int[] {draw.nextInt(16), 0, 0, 0};
            case 14 -> new int[] {draw.nextInt(6), draw.nextInt(5), 0, 0};
            case 15 -> new int[] {draw.nextInt(10), draw.nextInt(5), 0, 0};
            case 16, 17 -> new int[] {draw.nextInt(2), 0, 0, 0};
            default -> new int[] {draw.nextInt(17), draw.nextInt(6), 0, 0};
        };
        if (draw.nextInt(12) == 0) {
            int[] wild = {-1, Integer.MIN_VALUE, Integer.MAX_VALUE, 17, 1000000, draw.nextInt(), draw.nextInt(40) - 5};
            n[draw.nextInt(4)] = wild[draw.nextInt(wild.length)];
        }
        return n;
    }

    private static void lookAtAll(int run, LoanHouse house, PlainHouse plain) {
        int[] calls = {11, 12, 13, 14, 15};
        for (int what : calls) {
            for (int of = -1; of < 200; of++) {
                for (int ask = -1; ask < 11; ask++) {
                    int[] n = {of, ask, 0, 0};
                    Script.due("run " + run + ", at the end: " + CALL[what] + " " + of + " " + ask, call(house, what, n), call(plain, what, n));
                }
            }
        }
    }

    private static int call(LoanHouse x, int what, int[] n) {
        return switch (what) {
            case 0 -> x.copy(n[0], n[1]);
            case 1 -> x.lend(n[0], n[1]);
            case 2 -> x.giveBack(n[0], n[1]);
            case 3 -> x.renew(n[0]);
            case 4 -> x.lose(n[0]);
            case 5 -> x.hold(n[0], n[1], n[2], n[3]);
            case 6 -> x.giveUp(n[0]);
            case 7 -> x.pass(n[0]);
            case 8 -> x.set(n[0], n[1]);
            case 9 -> x.drift(n[0], n[1]);
            case 10 -> x.undo();
            case 11 -> x.told(n[0]);
            case 12 -> x.copyOf(n[0], n[1]);
            case 13 -> x.holdOf(n[0], n[1]);
            case 14 -> x.titleOf(n[0], n[1]);
            case 15 -> x.readerOf(n[0], n[1]);
            case 16 -> x.keep(n[0]);
            default -> x.goBack(n[0]);
        };
    }

    private static int call(PlainHouse x, int what, int[] n) {
        return switch (what) {
            case 0 -> x.copy(n[0], n[1]);
            case 1 -> x.lend(n[0], n[1]);
            case 2 -> x.giveBack(n[0], n[1]);
            case 3 -> x.renew(n[0]);
            case 4 -> x.lose(n[0]);
            case 5 -> x.hold(n[0], n[1], n[2], n[3]);
            case 6 -> x.giveUp(n[0]);
            case 7 -> x.pass(n[0]);
            case 8 -> x.set(n[0], n[1]);
            case 9 -> x.drift(n[0], n[1]);
            case 10 -> x.undo();
            case 11 -> x.told(n[0]);
            case 12 -> x.copyOf(n[0], n[1]);
            case 13 -> x.holdOf(n[0], n[1]);
            case 14 -> x.titleOf(n[0], n[1]);
            case 15 -> x.readerOf(n[0], n[1]);
            case 16 -> x.keep(n[0]);
            default -> x.goBack(n[0]);
        };
    }
}
