import java.util.ArrayList;
import java.util.List;

/** Calls that are refused, in each of some states: the exception, and that nothing has changed behind it. */
public final class RefusalTests {
    private static final int CALLS = 512;
    private static final int LOW = Integer.MIN_VALUE;
    private static final int HIGH = Integer.MAX_VALUE;
    private static final int[] NO_CHANNELS = {LOW, -1, 3, HIGH};
    private static final int[] NO_FRAMES = {LOW, -1, 120, HIGH};
    private static final int[] NO_ARTISTS = {LOW, -1, 6, HIGH};
    private static final int[] NO_OFFSETS = {LOW, -101, 101, HIGH};
    private static final int[] NO_SHIFTS = {LOW, -201, 201, HIGH};
    private static final int[] NO_TURNS = {LOW, -1, 4, HIGH};
    private static final Answers A = new Answers();

    private final State state;
    private final List<List<State.Step>> questions;
    private final List<List<String>> answers = new ArrayList<>();

    private RefusalTests(State state) {
        this.state = state;
        this.questions = Questions.of(state);
        for (List<State.Step> row : questions) {
            answers.add(answers(state.reach(), row));
        }
    }

    public static void main(String[] args) {
        for (State state : State.all()) {
            new RefusalTests(state).all();
        }
        A.close("RefusalTests");
    }

    private void all() {
        bone();
        if (state.bones > 0) {
            keyMissing();
            keyUnfit();
            keyNotNow();
        }
        cells();
        noKeys();
        keyAt();
        frames();
        cut();
        film();
        farm();
        royalties();
    }

    private static List<String> answers(KeyframeCourt court, List<State.Step> row) {
        List<String> answers = new ArrayList<>();
        for (State.Step step : row) {
            answers.add(Answers.of(() -> step.on(court)));
        }
        return answers;
    }

    private void refused(String exception, String call, State.Step step) {
        String what = state.name + ": " + call;
        for (int i = 0; i < questions.size(); i++) {
            List<State.Step> row = questions.get(i);
            A.due("the calls of one object are at most " + CALLS, "true",
                    String.valueOf(state.calls() + 1 + row.size() <= CALLS));
            KeyframeCourt court = state.reach();
            A.due(what, "throws." + exception, Answers.of(() -> step.on(court)));
            A.due(what + ", then row " + i, answers.get(i).toString(), answers(court, row).toString());
        }
    }

    private void missing(String call, State.Step step) {
        refused("IndexOutOfBoundsException", call, step);
    }

    private void unfit(String call, State.Step step) {
        refused("IllegalArgumentException", call, step);
    }

    private void notNow(String call, State.Step step) {
        refused("IllegalStateException", call, step);
    }

    private int[] noBones() {
        return new int[] {LOW, -1, state.bones, HIGH};
    }

    private void bone() {
        for (int parent : new int[] {LOW, -2, state.bones, HIGH}) {
            missing("bone, parent " + parent, c -> c.bone(parent, 0, 0));
            missing("bone, parent " + parent + " and x", c -> c.bone(parent, 101, 0));
            missing("bone, parent " + parent + " and y", c -> c.bone(parent, 0, -101));
        }
        for (int offset : NO_OFFSETS) {
            unfit("bone, x " + offset, c -> c.bone(-1, offset, 0));
            unfit("bone, y " + offset, c -> c.bone(state.bones - 1, 0, offset));
        }
        if (state.bones == 8) {
            notNow("bone, a ninth on nothing", c -> c.bone(-1, 0, 0));
            notNow("bone, a ninth on the last", c -> c.bone(7, 100, -100));
        }
    }

    private void keyMissing() {
        for (int frame : new int[] {state.keys.get(0).frame(), 118}) {
            for (int value : new int[] {0, 201}) {
                for (int bone : noBones()) {
                    missing("key, bone " + bone, c -> c.key(bone, 0, frame, value, 0, false));
                }
                for (int channel : NO_CHANNELS) {
                    missing("key, channel " + channel, c -> c.key(0, channel, frame, value, 0, false));
                }
                for (int artist : NO_ARTISTS) {
                    missing("key, artist " + artist, c -> c.key(0, 0, frame, value, artist, true));
                    missing("key, artist " + artist, c -> c.key(0, 2, frame, value, artist, true));
                }
            }
        }
        for (int frame : NO_FRAMES) {
            missing("key, frame " + frame, c -> c.key(0, 0, frame, 0, 0, false));
            missing("key, frame and value " + frame, c -> c.key(0, 2, frame, 4, 0, true));
        }
    }

    private void keyUnfit() {
        for (int frame : new int[] {state.keys.get(0).frame(), 118}) {
            for (int value : NO_SHIFTS) {
                unfit("key, x " + value, c -> c.key(0, 0, frame, value, 5, true));
                unfit("key, y " + value, c -> c.key(0, 1, frame, value, 5, false));
            }
            for (int value : NO_TURNS) {
                unfit("key, turn " + value, c -> c.key(0, 2, frame, value, 5, false));
                unfit("key, soft turn " + value, c -> c.key(0, 2, frame, value, 5, true));
            }
            for (int value = 0; value < 4; value++) {
                int turn = value;
                unfit("key, soft turn " + turn, c -> c.key(0, 2, frame, turn, 5, true));
            }
        }
        for (State.Cell key : state.keys.subList(0, Math.min(9, state.keys.size()))) {
            unfit("key, in place of " + key,
                    c -> c.key(key.bone(), key.channel(), key.frame(), -201, 5, false));
        }
    }

    private void keyNotNow() {
        if (state.keys.size() < 80) {
            return;
        }
        for (int frame = 0; frame < 120; frame += 17) {
            for (int channel = 0; channel < 3; channel++) {
                int f = frame;
                int ch = channel;
                if (!state.hasKey(new State.Cell(5, ch, f))) {
                    notNow("key, an 81st at " + f, c -> c.key(5, ch, f, 1, 5, false));
                }
            }
        }
    }

    private void cells() {
        for (int bone : noBones()) {
            missing("unkey, bone " + bone, c -> c.unkey(bone, 0, 0));
            missing("value, bone " + bone, c -> c.value(bone, 0, 0));
            missing("span, bone " + bone, c -> c.span(bone, 0, 0));
            missing("place, bone " + bone, c -> c.place(bone, 0));
        }
        for (int channel : NO_CHANNELS) {
            missing("unkey, channel " + channel, c -> c.unkey(0, channel, 0));
            missing("value, channel " + channel, c -> c.value(0, channel, 0));
            missing("span, channel " + channel, c -> c.span(0, channel, 0));
        }
        for (int frame : NO_FRAMES) {
            missing("unkey, frame " + frame, c -> c.unkey(0, 0, frame));
            missing("value, frame " + frame, c -> c.value(0, 0, frame));
            missing("span, frame " + frame, c -> c.span(0, 0, frame));
            missing("place, frame " + frame, c -> c.place(0, frame));
        }
    }

    private void noKeys() {
        for (State.Cell key : state.keys.subList(0, Math.min(9, state.keys.size()))) {
            noKey(new State.Cell(key.bone(), key.channel(), Math.max(0, key.frame() - 1)));
            noKey(new State.Cell(key.bone(), key.channel(), Math.min(119, key.frame() + 1)));
            noKey(new State.Cell(key.bone(), (key.channel() + 1) % 3, key.frame()));
            noKey(new State.Cell((key.bone() + 1) % state.bones, key.channel(), key.frame()));
        }
    }

    private void noKey(State.Cell cell) {
        if (!state.hasKey(cell)) {
            missing("unkey, no key " + cell, c -> c.unkey(cell.bone(), cell.channel(), cell.frame()));
            missing("span, no key " + cell, c -> c.span(cell.bone(), cell.channel(), cell.frame()));
        }
    }

    private void keyAt() {
        for (int place : new int[] {LOW, -1, state.keys.size(), HIGH}) {
            missing("keyAt, place " + place, c -> c.keyAt(place));
        }
    }

    private void frames() {
        for (int frame : NO_FRAMES) {
            missing("artists, frame " + frame, c -> c.artists(frame));
            missing("state, frame " + frame, c -> c.state(frame));
        }
    }

    private void cut() {
        for (int place : new int[] {LOW, -1, state.shots + 1, HIGH}) {
            missing("cut, place " + place, c -> c.cut(place, 0, 0));
            missing("cut, place and last " + place, c -> c.cut(place, 1, 0));
        }
        for (int frame : NO_FRAMES) {
            missing("cut, first " + frame, c -> c.cut(0, frame, 0));
            missing("cut, first " + frame, c -> c.cut(0, frame, 119));
            missing("cut, last " + frame, c -> c.cut(state.shots, 0, frame));
            missing("cut, last " + frame, c -> c.cut(state.shots, 119, frame));
        }
        unfit("cut, last one less", c -> c.cut(0, 60, 59));
        unfit("cut, last 0", c -> c.cut(state.shots, 119, 0));
        if (state.shots == 10) {
            notNow("cut, an 11th ahead", c -> c.cut(0, 0, 119));
            notNow("cut, an 11th behind", c -> c.cut(10, 119, 119));
        }
    }

    private void film() {
        for (int shot : new int[] {LOW, -1, state.shots, HIGH}) {
            missing("uncut, shot " + shot, c -> c.uncut(shot));
        }
        for (int place : new int[] {LOW, -1, state.frames, HIGH}) {
            missing("shown, place " + place, c -> c.shown(place));
        }
    }

    private void farm() {
        for (int speed : new int[] {LOW, 0, 6, HIGH}) {
            unfit("machine, speed " + speed, c -> c.machine(speed));
        }
        for (int price : new int[] {LOW, 0, 101, HIGH}) {
            unfit("offer, price " + price, c -> c.offer(price, 50));
        }
        for (int hours : new int[] {LOW, 0, 51, HIGH}) {
            unfit("offer, hours " + hours, c -> c.offer(100, hours));
        }
        for (int hours : new int[] {LOW, 0, 25, HIGH}) {
            unfit("night, hours " + hours, c -> c.night(hours));
        }
        for (int machine : new int[] {LOW, -1, state.machines, HIGH}) {
            missing("heat, machine " + machine, c -> c.heat(machine));
        }
        if (state.machines == 4) {
            notNow("machine, a fifth", c -> c.machine(5));
        }
        if (state.offers == 10) {
            notNow("offer, an 11th", c -> c.offer(100, 50));
        }
    }

    private void royalties() {
        for (int rate : new int[] {LOW, -1, 1001, HIGH}) {
            unfit("setRate, rate " + rate, c -> c.setRate(rate));
        }
        for (int artist : NO_ARTISTS) {
            missing("seconds, artist " + artist, c -> c.seconds(artist));
        }
        for (int whose : new int[] {LOW, -1, 7, HIGH}) {
            missing("money, whose " + whose, c -> c.money(whose));
        }
        if (!state.name.equals("shown")) {
            notNow("show", c -> c.show());
        }
    }
}
