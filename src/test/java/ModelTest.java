import java.util.Random;

/** Long runs of calls drawn from fixed seeds: every answer is compared with that of Model. */
public final class ModelTest {
    private static final int RUNS = 4000;
    private static final int CALLS = 512;
    private static final int ENOUGH_TO_SEE = 5;

    private static final String[] NAMES = {"desk", "needs", "turn", "run", "log", "holder", "waits",
        "interrupt", "dead", "tick", "close", "look", "count"};
    // How often each is drawn, by the kind of the run: mixed, crowded waits, long schedules, much time and death.
    private static final int[][] WEIGHTS = {
        {10, 40, 100, 30, 10, 12, 20, 8, 2, 6, 0, 30, 12},
        {16, 80, 160, 60, 10, 20, 50, 12, 1, 2, 0, 50, 10},
        {8, 30, 400, 10, 10, 10, 12, 4, 1, 4, 0, 20, 12},
        {20, 60, 120, 60, 10, 30, 20, 6, 8, 60, 1, 30, 12},
    };

    private final Random random;
    private final DeskTurns real = new DeskTurns();
    private final Model model = new Model();
    private final int[] weights;
    private final int subjects;
    private int time = 0;

    private ModelTest(int seed) {
        random = new Random(seed);
        weights = WEIGHTS[seed % WEIGHTS.length];
        subjects = 1 + random.nextInt(16);
    }

    public static void main(String[] args) {
        Due due = new Due();
        for (int seed = 0; seed < RUNS && due.wrong() < ENOUGH_TO_SEE; seed++) {
            new ModelTest(seed).compare(due, seed);
        }
        due.end();
    }

    private void compare(Due due, int seed) {
        int before = due.wrong();
        for (int i = 0; i < CALLS && due.wrong() == before; i++) {
            int which = i < 2 ? 0 : drawCall(i);
            int a = drawFirst(which);
            int b = drawSecond(which);
            int c = near(subjects);
            String call = "seed " + seed + ", call " + i + ": " + NAMES[which] + "(" + a + ", " + b + ", " + c + ")";
            due.is(call, realAnswer(which, a, b, c), model.answer(NAMES[which], a, b, c));
        }
    }

    private int drawCall(int i) {
        if (i > CALLS * 9 / 10 && random.nextInt(40) == 0) {
            return 10;
        }
        int total = 0;
        for (int w : weights) {
            total += w;
        }
        int at = random.nextInt(total);
        int which = 0;
        while (at >= weights[which]) {
            at -= weights[which];
            which++;
        }
        return which;
    }

    /** Mostly 0 .. n - 1, now and then one beside it, seldom far away. */
    private int near(int n) {
        int kind = random.nextInt(200);
        if (kind == 0) {
            return random.nextInt();
        }
        if (kind < 5) {
            return random.nextInt(n + 4) - 2;
        }
        return random.nextInt(n);
    }

    private int drawFirst(int which) {
        switch (NAMES[which]) {
            case "desk":
                return 1 + near(12);
            case "log":
                return near(60);
            case "holder", "waits":
                return near(subjects);
            case "tick":
                time += random.nextInt(5) == 0 ? random.nextInt(130) : random.nextInt(12);
                return random.nextInt(20) == 0 ? time - 20 : random.nextInt(300) == 0 ? near(100001) : time;
            case "count":
                return near(7);
            default:
                // Asked of the model: the real one is promised to answer 512 calls, all of which are compared.
                int desks = Integer.parseInt(model.answer("count", 0, 0, 0));
                return near(random.nextInt(4) == 0 ? 8 : Math.max(1, desks));
        }
    }

    private int drawSecond(int which) {
        switch (NAMES[which]) {
            case "look":
                return near(5);
            case "waits":
                return near(4);
            case "needs":
                return near(random.nextInt(3) == 0 ? 12 : 4);
            default:
                return near(13) - 1;
        }
    }

    private String realAnswer(int which, int a, int b, int c) {
        try {
            return switch (NAMES[which]) {
                case "desk" -> "" + real.desk(a, b);
                case "needs" -> "" + real.needs(a, b, c);
                case "turn" -> "" + real.turn(a);
                case "run" -> "" + real.run();
                case "log" -> "" + real.log(a);
                case "holder" -> "" + real.holder(a);
                case "waits" -> "" + real.waits(a, b);
                case "interrupt" -> "" + real.interrupt(a);
                case "dead" -> "" + real.dead(a);
                case "tick" -> "" + real.tick(a);
                case "close" -> "" + real.close();
                case "look" -> "" + real.look(a, b);
                default -> "" + real.count(a);
            };
        } catch (RuntimeException e) {
            return e.getClass().getSimpleName();
        }
    }
}
