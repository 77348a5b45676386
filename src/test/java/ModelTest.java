import java.util.Random;

/** Long runs of mixed calls, right and wrong ones, answered by the program and by the model alike. */
public final class ModelTest {
    private static final int RUNS = 1500;
    private static final int DENSE_RUNS = 400;
    private static final int CALLS = 512;

    private final Random random;
    private final Model model = new Model();
    private final PictureDeck deck = new PictureDeck();
    private final StringBuilder soFar = new StringBuilder();

    private ModelTest(long seed) {
        random = new Random(seed);
    }

    public static void main(String[] args) {
        for (int seed = 1; seed <= RUNS; seed++) {
            new ModelTest(seed).askMixed(seed % 3 == 0);
        }
        for (int seed = 1; seed <= DENSE_RUNS; seed++) {
            new ModelTest(-seed).askDense();
        }
        System.out.println(RUNS + " mixed runs and " + DENSE_RUNS + " dense ones, all answered as by the model");
    }

    private void askMixed(boolean large) {
        ask("size " + between(1, large ? 4 : 2) + " " + between(1, large ? 3 : 2));
        for (int i = 1; i < CALLS; i++) {
            ask(chosen());
        }
    }

    /** One square of large levels, and each sample of it looked at. */
    private void askDense() {
        ask("begin " + (random.nextBoolean() ? "1" : "2") + " 1 1 false");
        ask("scale " + between(1, 31));
        if (model.answer("told 0").equals("1")) {
            ask("itself");
        }
        for (int i = 0; i < 90; i++) {
            ask("level " + between(0, 5) + " " + between(0, 63) + " " + between(-40, 40));
        }
        ask("square");
        ask("done");
        ask("last");
        for (int i = 0; i < 256; i++) {
            ask("sample 0 " + i % 16 + " " + i / 16);
        }
        for (int i = 0; i < 128; i++) {
            ask("sample " + (1 + i / 64) + " " + i % 8 + " " + i / 8 % 8);
        }
    }

    private void ask(String call) {
        String got = Calls.answer(deck, call);
        String want = model.answer(call);
        soFar.append(call).append(" -> ").append(want).append('\n');
        if (!got.equals(want)) {
            System.out.println(soFar);
            System.out.println("The last call was answered " + got);
            System.exit(1);
        }
    }

    private String chosen() {
        if (random.nextInt(12) == 0) {
            return wild();
        }
        if (random.nextInt(3) == 0) {
            return look();
        }
        return model.answer("told 0").equals("0") ? outside() : inside();
    }

    private String outside() {
        switch (random.nextInt(8)) {
            case 0: return "last";
            case 1: return "matrix " + between(0, 1) + " " + between(0, 63) + " " + between(1, 255);
            default: return "begin " + between(1, 3) + " " + between(1, 16) + " " + between(1, 3) + " " + yes();
        }
    }

    private String inside() {
        int kind = Integer.parseInt(model.answer("told 0"));
        switch (random.nextInt(12)) {
            case 0: return "scale " + between(1, 31);
            case 1: case 2: return "level " + between(0, 5) + " " + between(0, 8) + " " + between(-20, 20);
            case 3: return "level " + between(0, 5) + " " + between(0, 63) + " " + between(-255, 255);
            case 4: return "leave " + between(1, 3);
            case 5: return "done";
            case 6: return kind == 1 || random.nextInt(3) == 0 ? "itself" : "square";
            case 7: case 8: return kind == 1 ? "itself" : "vector " + between(0, kind - 2) + " " + step() + " " + step();
            case 9: return "matrix " + between(0, 1) + " " + between(0, 63) + " " + between(1, 255);
            default: return random.nextInt(3) == 0 ? "done" : "square";
        }
    }

    private String look() {
        switch (random.nextInt(12)) {
            case 0: return "told " + between(0, 10);
            case 1: case 2: return "told " + between(4, 10);
            case 3: return "colour " + between(-1, 64) + " " + between(-1, 48);
            case 4: return "colour " + between(0, 15) + " " + between(0, 15);
            case 5: return "light " + between(-40, 40) / 16f + " " + between(-100, 300) / 3f;
            case 6: return "keep";
            case 7: return "error";
            case 8: return "sample " + between(-1, 3) + " " + between(-1, 64) + " " + between(-1, 48);
            default: return "sample " + between(0, 2) + " " + between(0, 15) + " " + between(0, 15);
        }
    }

    private String wild() {
        switch (random.nextInt(14)) {
            case 0: return random.nextInt(6) == 0 ? "size " + between(0, 5) + " " + between(0, 4) : "size 5 1";
            case 1: return "matrix " + between(-1, 2) + " " + between(-1, 64) + " " + between(-1, 256);
            case 2: return "begin " + between(0, 4) + " " + between(0, 17) + " " + between(0, 17) + " " + yes();
            case 3: return "scale " + between(-1, 33);
            case 4: return "itself";
            case 5: return "vector " + between(-1, 2) + " " + between(-260, 260) + " " + between(-260, 260);
            case 6: return "level " + between(-1, 6) + " " + between(-1, 64) + " " + between(-257, 257);
            case 7: return "square";
            case 8: return "leave " + between(-1, 13);
            case 9: return "done";
            case 10: return "last";
            case 11: return "sample " + random.nextInt() + " " + random.nextInt() + " " + random.nextInt();
            case 12: return "light " + odd(1000) + " " + odd(100000);
            default: return "told " + between(-2, 12);
        }
    }

    private String odd(int limit) {
        float[] values = {
            Float.NaN, Float.POSITIVE_INFINITY, Float.NEGATIVE_INFINITY, -0f, limit, -limit,
            Math.nextUp((float) limit), -Math.nextUp((float) limit), Float.MIN_VALUE
        };
        return "" + values[random.nextInt(values.length)];
    }

    private String step() {
        return "" + (random.nextInt(4) == 0 ? between(-16, 16) : between(-7, 7));
    }

    private String yes() {
        return "" + (random.nextInt(3) == 0);
    }

    private int between(int least, int most) {
        return least + random.nextInt(most - least + 1);
    }
}
