import java.util.Random;

/** Long runs of calls, good and wrong ones mixed, each answered by the class and by the oracle. */
public final class RandomRunsTest {
    private static final int RUNS = 1500;
    // A step makes at most 20 calls, and no more than 512 on one object are promised.
    private static final int CALLS = 512 - 20;
    private static final int[] EDGES = {
        Integer.MIN_VALUE, -1000000, -2, -1, 0, 1, 2, 3, 4, 5, 7, 8, 15, 16, 17, 20, 31, 32, 33, 39, 40, 41, 47, 48,
        49, 54, 55, 56, 63, 64, 65, 110, 111, 112, 113, 127, 128, 129, 192, 193, 199, 200, 201, 220, 240, 241, 255,
        256, 257, 1000, 1024, 1025, 4096, 4097, 100000, 100001, Integer.MAX_VALUE};

    private final Random random;
    private final int run;
    private final BitWell well = new BitWell();
    private final Oracle oracle = new Oracle();
    private int calls = 0;

    private RandomRunsTest(int run) {
        this.run = run;
        this.random = new Random(run);
    }

    public static void main(String[] args) {
        for (int run = 0; run < RUNS; run++) {
            RandomRunsTest one = new RandomRunsTest(run);
            while (one.calls < CALLS) {
                one.step();
            }
        }
        Check.finish();
    }

    private int edge() {
        return EDGES[random.nextInt(EDGES.length)];
    }

    private int number() {
        return random.nextInt(8) == 0 ? edge() : random.nextInt();
    }

    private int generatorNumber() {
        return random.nextInt(12) == 0 ? edge() : random.nextInt(4);
    }

    private void due(String call, long want, long got) {
        calls++;
        Check.same("run " + run + ", call " + calls + ": " + call, want, got);
    }

    private void due(String call, boolean want, boolean got) {
        due(call, want ? 1 : 0, got ? 1 : 0);
    }

    private void step() {
        int dice = random.nextInt(100);
        if (dice < 30) {
            feedSome();
        } else if (dice < 38) {
            int n = random.nextInt(4) == 0 ? edge() : random.nextInt(60);
            due("end(" + n + ")", oracle.end(n), well.end(n));
        } else if (dice < 50) {
            due("supply()", oracle.supply(), well.supply());
        } else if (dice < 57) {
            openOne();
        } else if (dice < 59) {
            int g = generatorNumber();
            due("close(" + g + ")", oracle.close(g), well.close(g));
        } else if (dice < 63) {
            int g = generatorNumber();
            boolean resistance = random.nextInt(3) == 0;
            due("reseed(" + g + ", " + resistance + ")", oracle.reseed(g, resistance), well.reseed(g, resistance));
        } else if (dice < 78) {
            drawSome();
        } else if (dice < 85) {
            piece();
        } else if (dice < 87) {
            settings();
        }
        look();
    }

    private void feedSome() {
        int times = random.nextInt(random.nextInt(3) == 0 ? 14 : 3);
        boolean dull = random.nextInt(40) == 0;
        for (int k = 0; k < times; k++) {
            int a = dull ? random.nextInt(3) * 0x01010101 : number();
            int b = number();
            int c = number();
            int d = number();
            int e = dull ? random.nextInt(0x300) & 0x101 : random.nextInt();
            due("feed(" + a + ", " + b + ", " + c + ", " + d + ", " + e + ")",
                    oracle.feed(a, b, c, d, e), well.feed(a, b, c, d, e));
        }
    }

    private void openOne() {
        int kind = random.nextInt(12) == 0 ? edge() : random.nextInt(8);
        int strength = random.nextInt(4) == 0 ? edge() : 1 + random.nextInt(256);
        boolean resists = random.nextBoolean();
        int interval = random.nextInt(6) == 0 ? edge() : 1 + random.nextInt(4);
        due("open(" + kind + ", " + strength + ", " + resists + ", " + interval + ")",
                oracle.open(kind, strength, resists, interval), well.open(kind, strength, resists, interval));
    }

    private void drawSome() {
        int g = generatorNumber();
        int n = random.nextInt(4) == 0 ? edge() : random.nextInt(150);
        int strength = random.nextInt(2) == 0 ? 0 : edge();
        boolean resistance = random.nextInt(4) == 0;
        due("draw(" + g + ", " + n + ", " + strength + ", " + resistance + ")",
                oracle.draw(g, n, strength, resistance), well.draw(g, n, strength, resistance));
    }

    private void piece() {
        boolean great = random.nextBoolean();
        switch (random.nextInt(4)) {
            case 0 -> due("digest(" + great + ")", oracle.digest(great), well.digest(great));
            case 1 -> due("mac(" + great + ")", oracle.mac(great), well.mac(great));
            case 2 -> {
                int n = great ? 48 : 32;
                due("end(" + n + ")", oracle.end(n), well.end(n));
                due("cipher(" + great + ")", oracle.cipher(great), well.cipher(great));
            }
            default -> {
                int sort = random.nextInt(6) == 0 ? edge() : random.nextInt(4);
                int n = random.nextInt(4) == 0 ? edge() : 1 + random.nextInt(200);
                due("derive(" + sort + ", " + n + ")", oracle.derive(sort, n), well.derive(sort, n));
            }
        }
    }

    private void settings() {
        boolean wrong = random.nextInt(4) == 0;
        int repeats = wrong ? edge() : 2 + random.nextInt(39);
        int window = wrong ? edge() : 16 + random.nextInt(1009);
        int part = wrong ? edge() : 2 + random.nextInt(window - 1);
        due("tests(" + repeats + ", " + window + ", " + part + ")",
                oracle.tests(repeats, window, part), well.tests(repeats, window, part));
    }

    private void look() {
        int what = random.nextInt(10) == 0 ? edge() : random.nextInt(8);
        due("source(" + what + ")", oracle.source(what), well.source(what));
        int g = generatorNumber();
        due("generator(" + g + ", " + what + ")", oracle.generator(g, what), well.generator(g, what));
        int part = random.nextInt(10) == 0 ? edge() : random.nextInt(2);
        int k = random.nextInt(5) == 0 ? edge() : random.nextInt(random.nextBoolean() ? 20 : 112);
        due("state(" + g + ", " + part + ", " + k + ")", oracle.state(g, part, k), well.state(g, part, k));
        due("size()", oracle.size(), well.size());
        int n = oracle.size() == 0 ? edge() : random.nextInt(oracle.size() + 1);
        due("drawn(" + n + ")", oracle.drawn(n), well.drawn(n));
    }
}
