import java.util.ArrayList;
import java.util.HashMap;
import java.util.List;
import java.util.Map;
import java.util.Set;
import java.util.TreeMap;
import java.util.TreeSet;

/** The document once more, in its slowest form: everything is found anew at each call. */
final class Model {
    private record Bone(int parent, int x, int y) { }

    private record Key(int value, int artist, boolean isSoft) { }

    private record Shot(int first, int last) { }

    private static final class Machine {
        int speed;
        int heat;
        boolean rests;
    }

    private static final class Offer {
        int price;
        int hours;
    }

    private final List<Bone> bones = new ArrayList<>();
    private final Map<Integer, TreeMap<Integer, Key>> keys = new TreeMap<>();
    private final List<Shot> shots = new ArrayList<>();
    private final Map<Integer, List<Integer>> stills = new HashMap<>();
    private final List<Machine> machines = new ArrayList<>();
    private final List<Offer> offers = new ArrayList<>();
    private final int[] money = new int[7];
    private int rate = 0;

    private static void index(boolean ok) {
        if (!ok) {
            throw new IndexOutOfBoundsException();
        }
    }

    private static void argument(boolean ok) {
        if (!ok) {
            throw new IllegalArgumentException();
        }
    }

    private static void now(boolean ok) {
        if (!ok) {
            throw new IllegalStateException();
        }
    }

    private static boolean isFrame(int frame) {
        return 0 <= frame && frame < 120;
    }

    private boolean isBone(int bone) {
        return 0 <= bone && bone < bones.size();
    }

    private void cell(int bone, int channel, int frame) {
        index(isBone(bone) && 0 <= channel && channel < 3 && isFrame(frame));
    }

    private TreeMap<Integer, Key> track(int bone, int channel) {
        return keys.computeIfAbsent(3 * bone + channel, t -> new TreeMap<>());
    }

    private int keyCount() {
        return keys.values().stream().mapToInt(TreeMap::size).sum();
    }

    int bone(int parent, int x, int y) {
        index(parent == -1 || isBone(parent));
        argument(Math.abs((long) x) <= 100 && Math.abs((long) y) <= 100);
        now(bones.size() < 8);
        bones.add(new Bone(parent, x, y));
        return bones.size() - 1;
    }

    int key(int bone, int channel, int frame, int value, int artist, boolean isSoft) {
        cell(bone, channel, frame);
        index(0 <= artist && artist < 6);
        if (channel == 2) {
            argument(0 <= value && value <= 3 && !isSoft);
        } else {
            argument(-200 <= value && value <= 200);
        }
        now(track(bone, channel).containsKey(frame) || keyCount() < 80);
        Set<Integer> before = voidFrames();
        track(bone, channel).put(frame, new Key(value, artist, isSoft));
        return change(before);
    }

    int unkey(int bone, int channel, int frame) {
        cell(bone, channel, frame);
        index(track(bone, channel).containsKey(frame));
        Set<Integer> before = voidFrames();
        track(bone, channel).remove(frame);
        return change(before);
    }

    private int change(Set<Integer> before) {
        Set<Integer> after = voidFrames();
        Set<Integer> fallen = new TreeSet<>(after);
        fallen.removeAll(before);
        Set<Integer> risen = new TreeSet<>(before);
        risen.removeAll(after);
        return fallen.size() - risen.size();
    }

    int value(int bone, int channel, int frame) {
        cell(bone, channel, frame);
        TreeMap<Integer, Key> track = track(bone, channel);
        if (track.isEmpty()) {
            return 0;
        }
        Integer from = track.floorKey(frame);
        if (from == null) {
            return track.firstEntry().getValue().value();
        }
        Key key = track.get(from);
        Integer to = track.higherKey(frame);
        if (!key.isSoft() || to == null) {
            return key.value();
        }
        int product = (track.get(to).value() - key.value()) * (frame - from);
        int rounded = product / (to - from);
        while (rounded * (to - from) > product) {
            rounded--;
        }
        return key.value() + rounded;
    }

    private Set<Integer> hanging(int bone, int channel, int frame) {
        TreeMap<Integer, Key> track = track(bone, channel);
        Set<Integer> on = new TreeSet<>();
        if (track.isEmpty()) {
            return on;
        }
        Integer from = track.floorKey(frame);
        if (from == null) {
            on.add(track.firstKey());
            return on;
        }
        on.add(from);
        Integer to = track.higherKey(frame);
        if (track.get(from).isSoft() && from < frame && to != null) {
            on.add(to);
        }
        return on;
    }

    int span(int bone, int channel, int frame) {
        cell(bone, channel, frame);
        index(track(bone, channel).containsKey(frame));
        int first = 999;
        int last = -1;
        for (int at = 0; at < 120; at++) {
            if (hanging(bone, channel, at).contains(frame)) {
                first = Math.min(first, at);
                last = at;
            }
        }
        return 1000 * first + last;
    }

    int keyAt(int place) {
        List<Integer> all = new ArrayList<>();
        keys.forEach((track, of) -> of.forEach((frame, key) -> all.add(1000 * track + frame)));
        index(0 <= place && place < all.size());
        return all.get(place);
    }

    private int heading(int bone, int frame) {
        return bone < 0 ? 0 : (heading(bones.get(bone).parent(), frame) + value(bone, 2, frame)) % 4;
    }

    private int[] point(int bone, int frame) {
        if (bone < 0) {
            return new int[] {0, 0};
        }
        Bone it = bones.get(bone);
        int[] base = point(it.parent(), frame);
        int x = it.x() + value(bone, 0, frame);
        int y = it.y() + value(bone, 1, frame);
        return switch (heading(it.parent(), frame)) {
            case 0 -> new int[] {base[0] + x, base[1] + y};
            case 1 -> new int[] {base[0] - y, base[1] + x};
            case 2 -> new int[] {base[0] - x, base[1] - y};
            default -> new int[] {base[0] + y, base[1] - x};
        };
    }

    int place(int bone, int frame) {
        index(isBone(bone) && isFrame(frame));
        int[] point = point(bone, frame);
        return 10000 * (point[0] + 5000) + point[1] + 5000;
    }

    int artists(int frame) {
        index(isFrame(frame));
        int set = 0;
        for (int bone = 0; bone < bones.size(); bone++) {
            for (int channel = 0; channel < 3; channel++) {
                for (int on : hanging(bone, channel, frame)) {
                    set |= 1 << track(bone, channel).get(on).artist();
                }
            }
        }
        return set;
    }

    private List<Integer> film() {
        List<Integer> frames = new ArrayList<>();
        for (Shot shot : shots) {
            for (int frame = shot.first(); frame <= shot.last(); frame++) {
                frames.add(frame);
            }
        }
        return frames;
    }

    int cut(int place, int first, int last) {
        index(0 <= place && place <= shots.size() && isFrame(first) && isFrame(last));
        argument(last >= first);
        now(shots.size() < 10);
        shots.add(place, new Shot(first, last));
        return film().size();
    }

    int uncut(int place) {
        index(0 <= place && place < shots.size());
        shots.remove(place);
        return film().size();
    }

    int shown(int place) {
        List<Integer> film = film();
        index(0 <= place && place < film.size());
        return film.get(place);
    }

    private List<Integer> poses(int frame) {
        List<Integer> all = new ArrayList<>();
        for (int bone = 0; bone < bones.size(); bone++) {
            for (int channel = 0; channel < 3; channel++) {
                all.add(value(bone, channel, frame));
            }
        }
        return all;
    }

    private int standing(int frame) {
        List<Integer> made = stills.get(frame);
        return made == null ? 0 : made.equals(poses(frame)) ? 1 : 2;
    }

    private Set<Integer> voidFrames() {
        Set<Integer> frames = new TreeSet<>();
        for (int frame = 0; frame < 120; frame++) {
            if (standing(frame) == 2) {
                frames.add(frame);
            }
        }
        return frames;
    }

    int state(int frame) {
        index(isFrame(frame));
        return standing(frame) + (film().contains(frame) ? 10 : 0);
    }

    int voids() {
        return voidFrames().size();
    }

    int machine(int speed) {
        argument(1 <= speed && speed <= 5);
        now(machines.size() < 4);
        Machine machine = new Machine();
        machine.speed = speed;
        machines.add(machine);
        return machines.size() - 1;
    }

    int offer(int price, int hours) {
        argument(1 <= price && price <= 100 && 1 <= hours && hours <= 50);
        now(offers.size() < 10);
        Offer offer = new Offer();
        offer.price = price;
        offer.hours = hours;
        offers.add(offer);
        return offers.size() - 1;
    }

    int night(int hours) {
        argument(1 <= hours && hours <= 24);
        int rendered = 0;
        int sold = 0;
        for (int hour = 0; hour < hours; hour++) {
            for (Machine machine : machines) {
                if (machine.rests) {
                    machine.heat = Math.max(0, machine.heat - 4);
                    if (machine.heat <= 8) {
                        machine.rests = false;
                    }
                    continue;
                }
                int done = 0;
                for (int frame : new TreeSet<>(film())) {
                    if (done < machine.speed && standing(frame) != 1) {
                        stills.put(frame, poses(frame));
                        machine.heat++;
                        done++;
                    }
                }
                rendered += done;
                if (done == 0) {
                    Offer best = bestOffer();
                    if (best != null) {
                        best.hours--;
                        money[6] += best.price;
                        machine.heat += 3;
                        sold++;
                    } else {
                        machine.heat = Math.max(0, machine.heat - 4);
                    }
                }
                if (machine.heat >= 20) {
                    machine.rests = true;
                }
            }
        }
        return 1000 * rendered + sold;
    }

    private Offer bestOffer() {
        Offer best = null;
        for (Offer offer : offers) {
            if (offer.hours > 0 && (best == null || offer.price > best.price)) {
                best = offer;
            }
        }
        return best;
    }

    int heat(int machine) {
        index(0 <= machine && machine < machines.size());
        return 10 * machines.get(machine).heat + (machines.get(machine).rests ? 1 : 0);
    }

    int setRate(int rate) {
        argument(0 <= rate && rate <= 1000);
        int before = this.rate;
        this.rate = rate;
        return before;
    }

    int seconds(int artist) {
        index(0 <= artist && artist < 6);
        int frames = 0;
        for (int frame : film()) {
            if ((artists(frame) >> artist) % 2 == 1) {
                frames++;
            }
        }
        return frames / 24;
    }

    int show() {
        List<Integer> film = film();
        now(!film.isEmpty());
        for (int frame : film) {
            now(standing(frame) == 1);
        }
        int all = 0;
        for (int artist = 0; artist < 6; artist++) {
            money[artist] += seconds(artist) * rate;
            all += seconds(artist) * rate;
        }
        return all;
    }

    int money(int whose) {
        index(0 <= whose && whose < 7);
        return money[whose];
    }
}
