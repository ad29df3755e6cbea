/** Runs of 512 mixed calls on the class and on the model, always the same ones. */
public final class ModelTests {
    private static final int RUNS = 400;
    private static final int CALLS = 512;
    private static final int[] ODD = {
        Integer.MIN_VALUE, -201, -101, -2, -1, 4, 6, 7, 8, 10, 11, 25, 51, 101, 120, 201, 1001,
        1 << 30, Integer.MAX_VALUE};

    private final KeyframeCourt court = new KeyframeCourt();
    private final Model model = new Model();
    private final Answers answers;
    private final int run;
    // The frames of a run lie close together in some runs, so that keys and shots meet.
    private final int frames;
    private final int oddPercent;
    private long seed;

    private ModelTests(Answers answers, int run) {
        this.answers = answers;
        this.run = run;
        this.seed = run * 7919L + 17;
        this.frames = run % 3 == 0 ? 120 : run % 3 == 1 ? 30 : 12;
        this.oddPercent = run % 4 == 0 ? 8 : 1;
    }

    public static void main(String[] args) {
        Answers answers = new Answers();
        for (int run = 0; run < RUNS && answers.wrong() == 0; run++) {
            ModelTests test = new ModelTests(answers, run);
            for (int call = 0; call < CALLS && answers.wrong() == 0; call++) {
                test.call(call);
            }
        }
        answers.close("ModelTests");
    }

    private int below(int bound) {
        seed = seed * 6364136223846793005L + 1442695040888963407L;
        return (int) ((seed >>> 33) % bound);
    }

    private int from(int lowest, int highest) {
        return below(100) < oddPercent ? ODD[below(ODD.length)] : lowest + below(highest - lowest + 1);
    }

    private void same(String call, Answers.Call ours, Answers.Call due) {
        answers.due("run " + run + ": " + call, Answers.of(due), Answers.of(ours));
    }

    private void call(int number) {
        int kind = number < 8 ? below(2) * 14 : below(100);
        if (kind < 3) {
            bone();
        } else if (kind < 38) {
            keys(kind);
        } else if (kind < 60) {
            asks(kind);
        } else if (kind < 80) {
            film(kind);
        } else {
            farm(kind);
        }
    }

    private void bone() {
        int parent = from(-1, 3);
        int x = from(-100, 100);
        int y = from(-100, 100);
        same("bone(" + parent + ", " + x + ", " + y + ")",
                () -> court.bone(parent, x, y), () -> model.bone(parent, x, y));
    }

    private void keys(int kind) {
        int bone = from(0, 3);
        int channel = from(0, 2);
        int frame = from(0, frames - 1);
        if (kind < 26) {
            int value = channel == 2 ? from(0, 3) : from(-4, 4) * (run % 5 == 0 ? 50 : 1);
            int artist = from(0, 5);
            boolean isSoft = channel == 2 ? below(20) == 0 : below(3) > 0;
            same("key(" + bone + ", " + channel + ", " + frame + ", " + value + ", " + artist + ", "
                    + isSoft + ")", () -> court.key(bone, channel, frame, value, artist, isSoft),
                    () -> model.key(bone, channel, frame, value, artist, isSoft));
        } else if (kind < 32) {
            int place = from(0, 40);
            String code = Answers.of(() -> model.keyAt(place));
            same("keyAt(" + place + ")", () -> court.keyAt(place), () -> model.keyAt(place));
            if (!code.startsWith("throws")) {
                int track = Integer.parseInt(code) / 1000;
                keyOrSpan(track / 3, track % 3, Integer.parseInt(code) % 1000, kind);
            }
        } else {
            keyOrSpan(bone, channel, frame, kind);
        }
    }

    private void keyOrSpan(int bone, int channel, int frame, int kind) {
        String where = "(" + bone + ", " + channel + ", " + frame + ")";
        if (kind % 3 == 0) {
            same("unkey" + where, () -> court.unkey(bone, channel, frame),
                    () -> model.unkey(bone, channel, frame));
        } else {
            same("span" + where, () -> court.span(bone, channel, frame),
                    () -> model.span(bone, channel, frame));
        }
    }

    private void asks(int kind) {
        int bone = from(0, 4);
        int channel = from(0, 2);
        int frame = from(0, frames - 1);
        if (kind < 44) {
            same("value(" + bone + ", " + channel + ", " + frame + ")",
                    () -> court.value(bone, channel, frame), () -> model.value(bone, channel, frame));
        } else if (kind < 49) {
            same("place(" + bone + ", " + frame + ")",
                    () -> court.place(bone, frame), () -> model.place(bone, frame));
        } else if (kind < 52) {
            same("artists(" + frame + ")", () -> court.artists(frame), () -> model.artists(frame));
        } else if (kind < 56) {
            same("state(" + frame + ")", () -> court.state(frame), () -> model.state(frame));
        } else if (kind < 58) {
            same("voids()", () -> court.voids(), () -> model.voids());
        } else {
            same("voidsByAll()", () -> court.voidsByAll(), () -> model.voids());
        }
    }

    private void film(int kind) {
        if (kind < 64) {
            int place = from(0, 4);
            int first = from(0, frames - 1);
            int last = below(10) == 0 ? from(0, frames - 1) : first + below(Math.max(1, frames / 3));
            same("cut(" + place + ", " + first + ", " + last + ")",
                    () -> court.cut(place, first, last), () -> model.cut(place, first, last));
        } else if (kind < 67) {
            int place = from(0, 9);
            same("uncut(" + place + ")", () -> court.uncut(place), () -> model.uncut(place));
        } else if (kind < 70) {
            int place = from(0, 60);
            same("shown(" + place + ")", () -> court.shown(place), () -> model.shown(place));
        } else if (kind < 72) {
            int artist = from(0, 5);
            same("seconds(" + artist + ")", () -> court.seconds(artist), () -> model.seconds(artist));
        } else if (kind < 74) {
            int rate = from(0, 1000);
            same("setRate(" + rate + ")", () -> court.setRate(rate), () -> model.setRate(rate));
        } else if (kind < 77) {
            same("show()", () -> court.show(), () -> model.show());
        } else {
            int whose = from(0, 6);
            same("money(" + whose + ")", () -> court.money(whose), () -> model.money(whose));
        }
    }

    private void farm(int kind) {
        if (kind < 82) {
            int speed = from(1, 5);
            same("machine(" + speed + ")", () -> court.machine(speed), () -> model.machine(speed));
        } else if (kind < 85) {
            int price = from(1, 9);
            int hours = from(1, 12);
            same("offer(" + price + ", " + hours + ")",
                    () -> court.offer(price, hours), () -> model.offer(price, hours));
        } else if (kind < 93) {
            int hours = from(1, below(3) == 0 ? 24 : 4);
            same("night(" + hours + ")", () -> court.night(hours), () -> model.night(hours));
        } else {
            int machine = from(0, 3);
            same("heat(" + machine + ")", () -> court.heat(machine), () -> model.heat(machine));
        }
    }
}
