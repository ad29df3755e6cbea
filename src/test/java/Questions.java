import java.util.ArrayList;
import java.util.List;

/** Rows of calls that together bring to light whatever a state holds. */
final class Questions {
    private final State state;
    private final List<List<State.Step>> rows = new ArrayList<>();
    private List<State.Step> row;

    private Questions(State state) {
        this.state = state;
    }

    /** Each row is for an object of its own; some change what they ask. */
    static List<List<State.Step>> of(State state) {
        Questions questions = new Questions(state);
        for (int bone = 0; bone < Math.min(8, state.bones + 1); bone++) {
            questions.bone(bone);
        }
        questions.keys();
        questions.frames();
        questions.sums();
        questions.nights();
        questions.shots();
        questions.limits();
        questions.newKeys();
        return questions.rows;
    }

    private void begin() {
        row = new ArrayList<>();
        rows.add(row);
    }

    private void ask(State.Step step) {
        row.add(step);
    }

    private void bone(int bone) {
        begin();
        for (int frame = 0; frame < 120; frame++) {
            int f = frame;
            ask(c -> c.value(bone, 0, f));
            ask(c -> c.value(bone, 1, f));
            ask(c -> c.value(bone, 2, f));
        }
        begin();
        for (int frame = 0; frame < 120; frame++) {
            int f = frame;
            ask(c -> c.place(bone, f));
        }
    }

    private void keys() {
        begin();
        for (int place = 0; place <= 80; place++) {
            int p = place;
            ask(c -> c.keyAt(p));
        }
        for (State.Cell key : state.keys) {
            ask(c -> c.span(key.bone(), key.channel(), key.frame()));
        }
        for (State.Cell key : state.keys) {
            ask(c -> c.unkey(key.bone(), key.channel(), key.frame()));
        }
        ask(c -> c.keyAt(0));
    }

    private void frames() {
        begin();
        for (int frame = 0; frame < 120; frame++) {
            int f = frame;
            ask(c -> c.artists(f));
            ask(c -> c.state(f));
        }
        begin();
        for (int place = 0; place <= state.frames; place++) {
            int p = place;
            ask(c -> c.shown(p));
        }
    }

    private void sums() {
        begin();
        ask(c -> c.voids());
        ask(c -> c.voidsByAll());
        for (int machine = 0; machine <= 4; machine++) {
            int m = machine;
            ask(c -> c.heat(m));
        }
        for (int artist = 0; artist < 6; artist++) {
            int a = artist;
            ask(c -> c.seconds(a));
        }
        money();
        ask(c -> c.show());
        money();
        ask(c -> c.setRate(1));
    }

    private void money() {
        for (int whose = 0; whose <= 6; whose++) {
            int w = whose;
            ask(c -> c.money(w));
        }
    }

    private void nights() {
        begin();
        for (int hour = 0; hour < 50; hour++) {
            ask(c -> c.night(1));
            ask(c -> c.money(6));
            ask(c -> c.heat(0));
            ask(c -> c.heat(3));
        }
        ask(c -> c.night(24));
        ask(c -> c.voids());
        ask(c -> c.show());
        money();
    }

    private void shots() {
        begin();
        for (int shot = 0; shot <= 10; shot++) {
            ask(c -> c.uncut(0));
            ask(c -> c.shown(0));
            ask(c -> c.state(33));
        }
    }

    private void limits() {
        begin();
        for (int shot = 0; shot <= 10; shot++) {
            int s = shot;
            ask(c -> c.cut(s, 60, 70));
        }
        for (int machine = 0; machine <= 4; machine++) {
            ask(c -> c.machine(3));
        }
        for (int offer = 0; offer <= 10; offer++) {
            ask(c -> c.offer(50, 2));
        }
        for (int bone = 0; bone <= 8; bone++) {
            ask(c -> c.bone(-1, 1, 1));
        }
        ask(c -> c.voids());
        ask(c -> c.night(24));
    }

    private void newKeys() {
        begin();
        for (int frame = 0; frame <= 80; frame++) {
            int f = frame;
            ask(c -> c.key(0, 1, f, f, f % 6, true));
        }
        ask(c -> c.voids());
        ask(c -> c.artists(80));
    }
}
