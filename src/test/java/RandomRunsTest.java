import java.util.ArrayList;
import java.util.List;
import java.util.Random;

/** Promises 1 to 18 together: long runs of drawn calls, each answer held against PlainGovernor's. */
public final class RandomRunsTest {
    private static final int RUNS = 400;
    private static final int CALLS = 512;

    private final Runs runs = new Runs("RandomRunsTest");
    private final Random random;
    private HeatGovernor governor;
    private PlainGovernor plain;
    private final List<String> calls = new ArrayList<>();
    private int seals = 0;
    private int extremeSeals = 0;
    private int refusals = 0;
    private int grantedAll = 0;
    private int grantedLess = 0;
    private int longWaits = 0;
    private int safeAhead = 0;
    private int unsafeAhead = 0;

    private RandomRunsTest(long seed) {
        random = new Random(seed);
    }

    public static void main(String[] args) {
        RandomRunsTest test = new RandomRunsTest(20261115);
        for (int run = 0; run < RUNS; run++) {
            test.oneRun(run);
        }
        test.wasWorthIt();
        test.runs.end();
    }

    private void oneRun(int run) {
        governor = new HeatGovernor();
        plain = new PlainGovernor();
        calls.clear();
        boolean extreme = run % 4 == 3;
        while (calls.size() < CALLS) {
            boolean built = extreme ? buildExtreme(run) : buildAndSeal(run);
            if (!built) {
                call(run, "open");
            } else {
                extremeSeals += extreme ? 1 : 0;
                int events = 5 + random.nextInt(60);
                for (int i = 0; i < events; i++) {
                    event(run);
                }
                call(run, "open");
            }
        }
    }

    private String call(int run, String call) {
        if (calls.size() >= CALLS) {
            return "";
        }
        calls.add(call);
        String due = Answers.of(plain, call);
        String got = Answers.of(governor, call);
        runs.same("run " + run + ", call " + calls.size() + ", " + call, got, due);
        runs.same("run " + run + ", call " + calls.size() + ", limits kept", plain.withinLimits(), true);
        return due;
    }

    private boolean buildAndSeal(int run) {
        int hot = 3000 + random.nextInt(6000);
        int reach = random.nextBoolean() ? 200 : 60;
        for (int n = 0; n < 6; n++) {
            int low = 50 + random.nextInt(random.nextBoolean() ? 1500 : 9000);
            call(run, "capacity " + n + " " + low + " " + Math.min(10000, low + random.nextInt(300)));
            call(run, "limit " + n + " " + Math.min(50000, hot + random.nextInt(random.nextBoolean() ? 1500 : 15000)));
            int other = random.nextInt(5) > 0 ? Math.min(6, n < 4 ? 4 : n + 1) : random.nextInt(7);
            edge(run, n, other, reach);
        }
        for (int i = random.nextInt(5); i > 0; i--) {
            edge(run, random.nextInt(7), random.nextInt(7), reach);
        }
        int truly = hot - random.nextInt(500);
        call(run, "air " + (truly - random.nextInt(500)) + " " + truly + " " + hot);
        int most = random.nextBoolean() ? 1 + random.nextInt(1000000) : 1 + random.nextInt(100000);
        for (int step = 3; step >= 0; step--) {
            call(run, "power " + step + " " + (step == 0 && random.nextInt(3) > 0 ? 0 : most));
            most = random.nextInt(most + 1);
        }
        if (random.nextInt(3) == 0) {
            call(run, "leak " + random.nextInt(3000) + " " + random.nextInt(4) + " " + random.nextInt(5) + " "
                    + (hot + random.nextInt(5000) - 1000));
        }
        for (int i = 0; i < 3; i++) {
            int n = random.nextInt(7);
            call(run, "truth " + n + " " + (random.nextBoolean() ? n : random.nextInt(7)) + " " + random.nextInt(1000));
        }
        return sealSomehow(run);
    }

    /** A package of the least and the greatest numbers that are taken, and of the next ones on both sides. */
    private boolean buildExtreme(int run) {
        boolean roomy = random.nextInt(3) > 0;
        for (int n = 0; n < 6; n++) {
            int high = roomy ? 10000 - random.nextInt(2) : extreme(1, 10000);
            call(run, "capacity " + n + " " + (roomy ? high - random.nextInt(3) : extreme(1, 10000)) + " " + high);
            call(run, "limit " + n + " " + (roomy ? 50000 - random.nextInt(2) : extreme(0, 50000)));
            call(run, "edge " + n + " 6 " + extreme(0, 500) + " " + (roomy ? 500 : extreme(0, 500)));
            call(run, "truth " + n + " 6 " + extreme(0, 500));
            call(run, "truth " + n + " " + n + " " + extreme(1, 10000));
        }
        for (int i = random.nextInt(6); i > 0; i--) {
            String ends = random.nextInt(7) + " " + random.nextInt(7);
            call(run, "edge " + ends + " " + extreme(0, 500) + " " + extreme(0, 500));
        }
        int hot = random.nextBoolean() ? extreme(0, 50000) : random.nextInt(50000);
        call(run, "air " + extreme(0, hot) + " " + extreme(0, hot) + " " + hot);
        call(run, "air 0 " + random.nextInt(hot + 2) + " " + hot);
        for (int step = 3; step >= 0; step--) {
            call(run, "power " + step + " " + (step == 0 && roomy ? 0 : extreme(0, 1000000)));
        }
        if (random.nextInt(3) == 0) {
            String slopes = extreme(0, 100) + " " + extreme(0, 100);
            call(run, "leak " + extreme(0, 100000) + " " + slopes + " " + extreme(0, 50000));
        }
        return sealSomehow(run);
    }

    /** One of the ends, or a number beside one. */
    private int extreme(int least, int most) {
        int[] choices = {least, least, most, most, least + 1, most - 1, least - 1, most + 1};
        return choices[random.nextInt(choices.length)];
    }

    private void edge(int run, int a, int b, int reach) {
        int low = random.nextInt(reach / 2);
        call(run, "edge " + a + " " + b + " " + low + " " + (low + random.nextInt(reach / 4)));
        call(run, "truth " + a + " " + b + " " + (low + random.nextInt(reach / 4)));
    }

    /** What is refused is made easier step by step, so that most packages are sealed with little to spare. */
    private boolean sealSomehow(int run) {
        for (int n = -1; n < 7; n++) {
            String sealed = call(run, "seal");
            if (sealed.equals("true")) {
                seals++;
                return true;
            }
            refusals++;
            if (n >= 0 && n < 6) {
                call(run, "capacity " + n + " " + (1500 + random.nextInt(2000)) + " 4000");
                call(run, "edge " + n + " 6 10 20");
            } else if (n == -1) {
                call(run, "leak 0 0 0 0");
                call(run, "power 0 0");
            }
        }
        return false;
    }

    private void event(int run) {
        int kind = random.nextInt(12);
        if (kind < 5) {
            begin(run);
        } else if (kind == 5) {
            call(run, "draw " + random.nextInt(4) + " " + random.nextInt(1000001));
        } else if (kind == 6) {
            call(run, "sensor " + random.nextInt(6) + " " + (random.nextInt(401) - 200) + " " + random.nextBoolean());
        } else if (kind == 7) {
            lookAhead(run);
        } else if (kind == 8) {
            wild(run);
        } else {
            call(run, "tick " + (random.nextInt(6) == 0 ? 1 + random.nextInt(100) : 1 + random.nextInt(10)));
        }
        call(run, "node " + random.nextInt(6) + " " + random.nextInt(4));
        call(run, "node " + random.nextInt(4) + " " + (1 + random.nextInt(2)));
        call(run, "core " + random.nextInt(4) + " " + random.nextInt(4));
    }

    private void begin(int run) {
        boolean eager = random.nextInt(4) > 0;
        for (int k = 0; k < 4; k++) {
            if (random.nextInt(5) > 0) {
                int step = eager ? 3 - random.nextInt(2) : random.nextInt(4);
                call(run, "ask " + k + " " + step + " " + (random.nextInt(3) == 0 ? random.nextInt(10) : 4));
            }
        }
        String less = call(run, "period");
        if (less.equals("0")) {
            grantedAll++;
        } else if (!less.isEmpty()) {
            grantedLess++;
        }
        for (int k = 0; k < 4; k++) {
            call(run, "core " + k + " 0");
            String waits = call(run, "core " + k + " 2");
            if (!waits.isEmpty() && Integer.parseInt(waits) > 1) {
                longWaits++;
            }
        }
    }

    private void lookAhead(int run) {
        String safe = call(run, "ahead " + random.nextInt(256));
        if (safe.equals("true")) {
            safeAhead++;
        } else if (safe.equals("false")) {
            unsafeAhead++;
        }
    }

    private void wild(int run) {
        String[] shapes = {"capacity 3", "edge 4", "limit 2", "air 3", "power 2", "leak 4", "truth 3", "seal 0",
            "ask 3", "tick 1", "draw 2", "ahead 1", "node 2", "core 2"};
        String[] shape = shapes[random.nextInt(shapes.length)].split(" ");
        StringBuilder text = new StringBuilder(shape[0]);
        int[] odd = {Integer.MIN_VALUE, -1, 0, 1, 2, 3, 4, 5, 6, 7, 9, 10, 100, 101, 1000001, Integer.MAX_VALUE};
        for (int i = 0; i < Integer.parseInt(shape[1]); i++) {
            text.append(' ').append(odd[random.nextInt(odd.length)]);
        }
        call(run, text.toString());
    }

    /** The runs are worth little if they never come where the promises are told apart. */
    private void wasWorthIt() {
        System.out.println("RandomRunsTest: sealed " + seals + ", of them extreme " + extremeSeals + ", not " + refusals
                + "; periods that gave all " + grantedAll + ", less " + grantedLess + "; long waits " + longWaits
                + "; ahead safe " + safeAhead + ", not " + unsafeAhead);
        int least = 100;
        boolean worth = seals > least && extremeSeals > least && refusals > least && grantedAll > least
                && grantedLess > least && longWaits > least && safeAhead > least && unsafeAhead > least;
        runs.same("enough of each kind seen", worth, true);
    }
}
