import java.util.ArrayList;
import java.util.List;

/** A state, kept as the calls that lead to it, so that any number of objects can be brought there. */
final class State {
    interface Step {
        int on(KeyframeCourt court);
    }

    record Cell(int bone, int channel, int frame) { }

    final String name;
    final List<Cell> keys = new ArrayList<>();
    int bones = 0;
    int shots = 0;
    int frames = 0;
    int machines = 0;
    int offers = 0;
    private final List<Step> steps = new ArrayList<>();

    private State(String name) {
        this.name = name;
    }

    static List<State> all() {
        return List.of(empty(), begun(), shown(), full());
    }

    int calls() {
        return steps.size();
    }

    KeyframeCourt reach() {
        KeyframeCourt court = new KeyframeCourt();
        for (Step step : steps) {
            step.on(court);
        }
        return court;
    }

    boolean hasKey(Cell cell) {
        return keys.contains(cell);
    }

    private static State empty() {
        return new State("empty");
    }

    /** Some of each; some frames stand, some are void, some are not rendered; one machine rests. */
    private static State begun() {
        State s = new State("begun");
        s.bone(-1, 10, -20);
        s.bone(0, -100, 100);
        s.bone(0, 5, 5);
        s.key(0, 0, 10, 100, 0, true);
        s.key(0, 0, 30, -50, 1, true);
        s.key(0, 2, 20, 3, 2, false);
        s.key(1, 1, 0, -200, 3, true);
        s.key(1, 1, 119, 200, 4, false);
        s.key(2, 2, 119, 1, 5, false);
        s.cut(0, 0, 40);
        s.cut(1, 100, 119);
        s.cut(1, 30, 35);
        s.machine(2);
        s.machine(5);
        s.offer(7, 3);
        s.offer(9, 2);
        s.then(c -> c.setRate(11));
        s.then(c -> c.night(6));
        s.then(c -> c.key(0, 0, 10, 90, 0, true));
        return s;
    }

    /** The film stands and was shown; some hours are sold, and some are left. */
    private static State shown() {
        State s = new State("shown");
        s.bone(-1, 0, 0);
        s.bone(0, 1, 2);
        s.key(0, 0, 0, 5, 1, false);
        s.key(1, 1, 5, 7, 2, true);
        s.key(1, 1, 9, -7, 3, false);
        s.cut(0, 0, 29);
        s.machine(5);
        s.offer(3, 50);
        s.offer(4, 2);
        s.then(c -> c.setRate(100));
        s.then(c -> c.night(12));
        s.then(c -> c.show());
        return s;
    }

    /** As many of each as there may be; some frames stand, some are void, some are not rendered. */
    private static State full() {
        State s = new State("full");
        for (int bone = 0; bone < 8; bone++) {
            s.bone(bone / 2 - 1, 10 * bone, -bone);
        }
        for (int i = 0; i < 80; i++) {
            int channel = i / 8 % 3;
            boolean isTurn = channel == 2;
            s.key(i % 8, channel, i * 7 % 120, isTurn ? i % 4 : i * 37 % 401 - 200, i % 6,
                    !isTurn && i % 3 > 0);
        }
        for (int shot = 0; shot < 10; shot++) {
            s.cut(shot, 5 * shot, 5 * shot + 12);
        }
        for (int speed = 5; speed > 1; speed--) {
            s.machine(speed);
        }
        for (int offer = 0; offer < 10; offer++) {
            s.offer(10 + offer * 7 % 10, offer + 1);
        }
        s.then(c -> c.setRate(1000));
        s.then(c -> c.night(4));
        s.then(c -> c.key(0, 0, 0, 33, 0, false));
        return s;
    }

    private void then(Step step) {
        steps.add(step);
    }

    private void bone(int parent, int x, int y) {
        bones++;
        then(c -> c.bone(parent, x, y));
    }

    private void key(int bone, int channel, int frame, int value, int artist, boolean isSoft) {
        keys.add(new Cell(bone, channel, frame));
        then(c -> c.key(bone, channel, frame, value, artist, isSoft));
    }

    private void cut(int place, int first, int last) {
        shots++;
        frames += last - first + 1;
        then(c -> c.cut(place, first, last));
    }

    private void machine(int speed) {
        machines++;
        then(c -> c.machine(speed));
    }

    private void offer(int price, int hours) {
        offers++;
        then(c -> c.offer(price, hours));
    }
}
