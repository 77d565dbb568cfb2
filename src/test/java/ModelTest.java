import java.util.Random;

/** Long runs of calls, right and wrong ones, whose answers must be those of OrganModel. */
public final class ModelTest {
    private static final int RUNS = 600;
    private static final int CALLS = 512;
    private static final int KINDS_OF_CALLS = 22;
    private static final Checks CHECKS = new Checks();

    private interface Answer {
        long get();
    }

    private final Random random;
    private final OrganBuilder organ = new OrganBuilder();
    private final OrganModel model = new OrganModel();
    private final int run;
    /** How many of a hundred parameters are drawn from beyond the range. */
    private final int wrongParameters;

    private ModelTest(int run) {
        this.run = run;
        random = new Random(run);
        wrongParameters = run % 3 == 0 ? 5 : 0;
    }

    public static void main(String[] args) {
        for (int run = 0; run < RUNS; run++) {
            ModelTest test = new ModelTest(run);
            for (int call = 0; call < CALLS; call++) {
                test.compareOneCall(call);
            }
        }
        CHECKS.end("ModelTest");
    }

    private void compareOneCall(int call) {
        int of = random.nextInt(100);
        if (of < 20) {
            compareHold(call);
        } else if (of < 32) {
            compareDraw(call);
        } else {
            int kind = random.nextInt(KINDS_OF_CALLS);
            if (kind < 7) {
                compareBuilding(call, kind);
            } else if (kind < 14) {
                comparePlaying(call, kind);
            } else {
                compareAsking(call, kind);
            }
        }
    }

    private void compareHold(int call) {
        int manual = some(0, 2);
        int key = some(0, 60);
        boolean held = random.nextInt(8) != 0;
        compare(call, "hold", answer(() -> number(organ.hold(manual, key, held))),
                model.hold(manual, key, held));
    }

    private void compareDraw(int call) {
        int stop = some(0, 11);
        boolean drawn = random.nextInt(3) != 0;
        compare(call, "draw", answer(() -> number(organ.draw(stop, drawn))),
                model.draw(stop, drawn));
    }

    private void compareBuilding(int call, int kind) {
        int a = some(0, kind == 0 ? 5 : kind == 1 ? 11 : 2);
        int b = kind == 0 ? some(0, 3) : some(0, 2);
        int wind = some(1, 9);
        int rank = some(0, 5);
        int hundredths = some(-50, 50);
        int shift = 12 * some(-1, 1);
        int supply = random.nextBoolean() ? some(10, 1000) : some(10, 120);
        int step = some(1, 10);
        int fall = some(0, 100);
        int tone = some(0, 11);
        switch (kind) {
            case 0 -> compare(call, "setRank", answer(() -> {
                organ.setRank(a, b, wind, hundredths);
                return 0;
            }), model.setRank(a, b, wind, hundredths));
            case 1 -> compare(call, "setStop", answer(() -> {
                organ.setStop(a, b, rank);
                return 0;
            }), model.setStop(a, b, rank));
            case 2 -> compare(call, "couple", answer(() -> organ.couple(a, b, shift)),
                    model.couple(a, b, shift));
            case 3 -> compare(call, "uncouple", answer(() -> number(organ.uncouple(a, b))),
                    model.uncouple(a, b));
            case 4 -> compare(call, "setSupply", answer(() -> organ.setSupply(supply)),
                    model.setSupply(supply));
            case 5 -> compare(call, "setSag", answer(() -> organ.setSag(step, fall)),
                    model.setSag(step, fall));
            default -> compare(call, "tune", answer(() -> organ.tune(tone, hundredths)),
                    model.tune(tone, hundredths));
        }
    }

    private void comparePlaying(int call, int kind) {
        int registration = some(0, 7);
        int times = some(1, 50);
        int rank = some(0, 5);
        switch (kind) {
            case 7, 8 -> compare(call, "keep", answer(() -> organ.keep(registration)),
                    model.keep(registration));
            case 9 -> compare(call, "recall", answer(() -> organ.recall(registration)),
                    model.recall(registration));
            case 10, 11 -> compare(call, "sound", answer(() -> organ.sound(times)),
                    model.sound(times));
            case 12 -> compare(call, "repair", answer(() -> organ.repair(rank)),
                    model.repair(rank));
            default -> {
                if (random.nextInt(4) == 0) {
                    compare(call, "letGo", answer(organ::letGo), model.letGo());
                }
            }
        }
    }

    private void compareAsking(int call, int kind) {
        int rank = some(0, 5);
        int key = some(0, 60);
        int manual = some(0, 2);
        switch (kind) {
            case 14 -> compare(call, "pipes", answer(organ::pipes), model.pipes());
            case 15 -> compare(call, "sounds", answer(() -> number(organ.sounds(rank, key))),
                    model.sounds(rank, key));
            case 16 -> compare(call, "need", answer(organ::need), model.need());
            case 17 -> compare(call, "sagStep", answer(organ::sagStep), model.sagStep());
            case 18 -> compare(call, "pitch", answer(() -> organ.pitch(rank, key)),
                    model.pitch(rank, key));
            case 19 -> compare(call, "lowest", answer(organ::lowest), model.lowest());
            case 20 -> compare(call, "wear", answer(() -> organ.wear(rank, key)),
                    model.wear(rank, key));
            default -> compare(call, "more", answer(() -> organ.more(manual, key)),
                    model.more(manual, key));
        }
    }

    private int some(int least, int most) {
        if (random.nextInt(100) < wrongParameters) {
            int[] beyond = {least - 1, most + 1, random.nextInt()};
            return beyond[random.nextInt(beyond.length)];
        }
        return least + random.nextInt(most - least + 1);
    }

    private static long number(boolean answer) {
        return answer ? 1 : 0;
    }

    private static long answer(Answer call) {
        try {
            return call.get();
        } catch (IllegalArgumentException thrown) {
            return OrganModel.ARGUMENT;
        } catch (IllegalStateException thrown) {
            return OrganModel.STATE;
        }
    }

    private void compare(int call, String name, long got, long due) {
        CHECKS.equal("run " + run + ", call " + call + ", " + name, got, due);
    }
}
