/** An animator's rig with its render farm and its royalties. */
public final class KeyframeCourt {
    private static final int MAX_BONES = 8;
    private static final int CHANNELS = 3;
    private static final int TURN = 2;
    private static final int MAX_TRACKS = MAX_BONES * CHANNELS;
    private static final int FRAMES = 120;
    private static final int ARTISTS = 6;
    private static final int MAX_KEYS = 80;
    private static final int MAX_SHOTS = 10;
    private static final int MAX_MACHINES = 4;
    private static final int MAX_OFFERS = 10;
    private static final int FRAMES_A_SECOND = 24;

    private static final int MAX_OFFSET = 100;
    private static final int MAX_SHIFT = 200;
    private static final int MAX_TURN = 3;
    private static final int MAX_SPEED = 5;
    private static final int MAX_PRICE = 100;
    private static final int MAX_OFFER_HOURS = 50;
    private static final int MAX_NIGHT = 24;
    private static final int MAX_RATE = 1000;

    private static final int HOT = 20;
    private static final int COOL = 8;
    private static final int COOLING = 4;
    private static final int SELLING_HEAT = 3;

    private static final int NOT_RENDERED = 0;
    private static final int STANDING = 1;
    private static final int VOID = 2;

    private final Rig rig;
    private final Stills stills;
    private final Film film;
    private final Farm farm;
    private final int[] paid;
    private int rate;

    public KeyframeCourt() {
        rig = new Rig();
        stills = new Stills();
        film = new Film();
        farm = new Farm();
        paid = new int[ARTISTS];
        rate = 0;
    }

    // ---- bones and keys

    public int bone(int parent, int x, int y)
            throws IndexOutOfBoundsException, IllegalArgumentException, IllegalStateException {
        mustExist(parent == -1 || rig.hasBone(parent));
        mustFit(isWithin(x, -MAX_OFFSET, MAX_OFFSET) && isWithin(y, -MAX_OFFSET, MAX_OFFSET));
        mustBePossible(rig.boneCount() < MAX_BONES);
        int number = rig.addBone(parent, x, y);
        stills.compareAll(rig);
        return number;
    }

    public int key(int bone, int channel, int frame, int value, int artist, boolean isSoft)
            throws IndexOutOfBoundsException, IllegalArgumentException, IllegalStateException {
        mustExist(rig.hasCell(bone, channel, frame) && isWithin(artist, 0, ARTISTS - 1));
        mustFit(channel == TURN
                ? isWithin(value, 0, MAX_TURN) && !isSoft
                : isWithin(value, -MAX_SHIFT, MAX_SHIFT));
        int track = trackOf(bone, channel);
        mustBePossible(rig.hasKey(track, frame) || rig.keyCount() < MAX_KEYS);
        int before = stills.voidCount();
        rig.setKey(track, frame, value, artist, isSoft);
        stills.compareAll(rig);
        return stills.voidCount() - before;
    }

    public int unkey(int bone, int channel, int frame) throws IndexOutOfBoundsException {
        mustExist(rig.hasCell(bone, channel, frame));
        int track = trackOf(bone, channel);
        mustExist(rig.hasKey(track, frame));
        int before = stills.voidCount();
        rig.takeKey(track, frame);
        stills.compareAll(rig);
        return stills.voidCount() - before;
    }

    public int value(int bone, int channel, int frame) throws IndexOutOfBoundsException {
        mustExist(rig.hasCell(bone, channel, frame));
        return rig.poseAt(trackOf(bone, channel), frame);
    }

    public int span(int bone, int channel, int frame) throws IndexOutOfBoundsException {
        mustExist(rig.hasCell(bone, channel, frame));
        int track = trackOf(bone, channel);
        mustExist(rig.hasKey(track, frame));
        return rig.spanOf(track, frame);
    }

    public int keyAt(int place) throws IndexOutOfBoundsException {
        mustExist(isWithin(place, 0, rig.keyCount() - 1));
        return rig.keyCode(place);
    }

    public int place(int bone, int frame) throws IndexOutOfBoundsException {
        mustExist(rig.hasBone(bone) && isFrame(frame));
        return rig.placeOf(bone, frame);
    }

    public int artists(int frame) throws IndexOutOfBoundsException {
        mustExist(isFrame(frame));
        return rig.artistsAt(frame);
    }

    // ---- film and frames

    public int cut(int place, int first, int last)
            throws IndexOutOfBoundsException, IllegalArgumentException, IllegalStateException {
        mustExist(isWithin(place, 0, film.shotCount()) && isFrame(first) && isFrame(last));
        mustFit(first <= last);
        mustBePossible(film.shotCount() < MAX_SHOTS);
        film.insert(place, first, last);
        return film.length();
    }

    public int uncut(int place) throws IndexOutOfBoundsException {
        mustExist(isWithin(place, 0, film.shotCount() - 1));
        film.remove(place);
        return film.length();
    }

    public int shown(int place) throws IndexOutOfBoundsException {
        mustExist(isWithin(place, 0, film.length() - 1));
        return film.frameAt(place);
    }

    public int state(int frame) throws IndexOutOfBoundsException {
        mustExist(isFrame(frame));
        return stills.standing(frame) + (film.needs(frame) ? 10 : 0);
    }

    public int voids() {
        return stills.voidCount();
    }

    public int voidsByAll() {
        return stills.voidCountByAll(rig);
    }

    // ---- machines

    public int machine(int speed) throws IllegalArgumentException, IllegalStateException {
        mustFit(isWithin(speed, 1, MAX_SPEED));
        mustBePossible(farm.machineCount() < MAX_MACHINES);
        return farm.addMachine(speed);
    }

    public int offer(int price, int hours) throws IllegalArgumentException, IllegalStateException {
        mustFit(isWithin(price, 1, MAX_PRICE) && isWithin(hours, 1, MAX_OFFER_HOURS));
        mustBePossible(farm.offerCount() < MAX_OFFERS);
        return farm.addOffer(price, hours);
    }

    public int night(int hours) throws IllegalArgumentException {
        mustFit(isWithin(hours, 1, MAX_NIGHT));
        return farm.passHours(hours, film, stills, rig);
    }

    public int heat(int machine) throws IndexOutOfBoundsException {
        mustExist(isWithin(machine, 0, farm.machineCount() - 1));
        return farm.heatOf(machine);
    }

    // ---- royalties

    public int setRate(int rate) throws IllegalArgumentException {
        mustFit(isWithin(rate, 0, MAX_RATE));
        int before = this.rate;
        this.rate = rate;
        return before;
    }

    public int seconds(int artist) throws IndexOutOfBoundsException {
        mustExist(isWithin(artist, 0, ARTISTS - 1));
        return secondsOf(artist);
    }

    public int show() throws IllegalStateException {
        mustBePossible(film.length() > 0 && isFilmStanding());
        int all = 0;
        for (int artist = 0; artist < ARTISTS; artist++) {
            int pay = secondsOf(artist) * rate;
            paid[artist] += pay;
            all += pay;
        }
        return all;
    }

    public int money(int whose) throws IndexOutOfBoundsException {
        mustExist(isWithin(whose, 0, ARTISTS));
        return whose == ARTISTS ? farm.earnings() : paid[whose];
    }

    private int secondsOf(int artist) {
        int frames = 0;
        for (int frame = 0; frame < FRAMES; frame++) {
            if ((rig.artistsAt(frame) & (1 << artist)) != 0) {
                frames += film.timesOf(frame);
            }
        }
        return frames / FRAMES_A_SECOND;
    }

    private boolean isFilmStanding() {
        for (int frame = 0; frame < FRAMES; frame++) {
            if (film.needs(frame) && !stills.stands(frame)) {
                return false;
            }
        }
        return true;
    }

    private static void mustExist(boolean exists) {
        if (!exists) {
            throw new IndexOutOfBoundsException();
        }
    }

    private static void mustFit(boolean fits) {
        if (!fits) {
            throw new IllegalArgumentException();
        }
    }

    private static void mustBePossible(boolean isPossible) {
        if (!isPossible) {
            throw new IllegalStateException();
        }
    }

    private static boolean isWithin(int number, int lowest, int highest) {
        return number >= lowest && number <= highest;
    }

    private static boolean isFrame(int frame) {
        return isWithin(frame, 0, FRAMES - 1);
    }

    private static int trackOf(int bone, int channel) {
        return CHANNELS * bone + channel;
    }

    /** The keys of all tracks; a track is one channel of one bone, 3 * bone + channel. */
    private static final class KeyTable {
        // A code is 1000 * track + frame: sorted by it, the keys stand in the document's order.
        private final int[] codes = new int[MAX_KEYS];
        private final int[] values = new int[MAX_KEYS];
        private final int[] setters = new int[MAX_KEYS];
        private final boolean[] softs = new boolean[MAX_KEYS];
        private int count = 0;

        static int codeOf(int track, int frame) {
            return 1000 * track + frame;
        }

        int size() {
            return count;
        }

        int codeAt(int index) {
            return codes[index];
        }

        int frameAt(int index) {
            return codes[index] % 1000;
        }

        int valueAt(int index) {
            return values[index];
        }

        int setterBit(int index) {
            return 1 << setters[index];
        }

        boolean isSoft(int index) {
            return softs[index];
        }

        int countAhead(int code) {
            int ahead = 0;
            while (ahead < count && codes[ahead] < code) {
                ahead++;
            }
            return ahead;
        }

        /** Returns the index of the first key of the track, or of what is behind, if it has none. */
        int startOf(int track) {
            return countAhead(codeOf(track, 0));
        }

        boolean has(int code) {
            int index = countAhead(code);
            return index < count && codes[index] == code;
        }

        void put(int code, int value, int setter, boolean isSoft) {
            int index = countAhead(code);
            if (!has(code)) {
                openRow(index);
            }
            codes[index] = code;
            values[index] = value;
            setters[index] = setter;
            softs[index] = isSoft;
        }

        void take(int code) {
            if (has(code)) {
                closeRow(countAhead(code));
            }
        }

        private void openRow(int index) {
            for (int i = count; i > index; i--) {
                copyRow(i - 1, i);
            }
            count++;
        }

        private void closeRow(int index) {
            count--;
            for (int i = index; i < count; i++) {
                copyRow(i + 1, i);
            }
        }

        private void copyRow(int from, int to) {
            codes[to] = codes[from];
            values[to] = values[from];
            setters[to] = setters[from];
            softs[to] = softs[from];
        }
    }

    /** The bones and their keys, and the values that these make of each track at each frame. */
    private static final class Rig {
        private final int[] parents = new int[MAX_BONES];
        private final int[] offsetsX = new int[MAX_BONES];
        private final int[] offsetsY = new int[MAX_BONES];
        private int bones = 0;
        private final KeyTable keys = new KeyTable();
        // Made anew for a track whenever its keys change, so that asking costs no search.
        private final int[] poses = new int[MAX_TRACKS * FRAMES];
        private final int[] setters = new int[MAX_TRACKS * FRAMES];

        int boneCount() {
            return bones;
        }

        int trackCount() {
            return CHANNELS * bones;
        }

        boolean hasBone(int bone) {
            return isWithin(bone, 0, bones - 1);
        }

        boolean hasCell(int bone, int channel, int frame) {
            return hasBone(bone) && isWithin(channel, 0, CHANNELS - 1) && isFrame(frame);
        }

        int addBone(int parent, int x, int y) {
            int number = bones;
            parents[number] = parent;
            offsetsX[number] = x;
            offsetsY[number] = y;
            bones++;
            return number;
        }

        int keyCount() {
            return keys.size();
        }

        int keyCode(int index) {
            return keys.codeAt(index);
        }

        boolean hasKey(int track, int frame) {
            return keys.has(KeyTable.codeOf(track, frame));
        }

        void setKey(int track, int frame, int value, int artist, boolean isSoft) {
            keys.put(KeyTable.codeOf(track, frame), value, artist, isSoft);
            poseTrack(track);
        }

        void takeKey(int track, int frame) {
            keys.take(KeyTable.codeOf(track, frame));
            poseTrack(track);
        }

        int poseAt(int track, int frame) {
            return poses[track * FRAMES + frame];
        }

        int artistsAt(int frame) {
            int artists = 0;
            for (int track = 0; track < trackCount(); track++) {
                artists |= setters[track * FRAMES + frame];
            }
            return artists;
        }

        int spanOf(int track, int frame) {
            int start = keys.startOf(track);
            int end = keys.startOf(track + 1);
            int index = keys.countAhead(KeyTable.codeOf(track, frame));
            int first = frame;
            if (index == start) {
                first = 0;
            } else if (keys.isSoft(index - 1)) {
                first = keys.frameAt(index - 1) + 1;
            }
            int last = index + 1 < end ? keys.frameAt(index + 1) - 1 : FRAMES - 1;
            return 1000 * first + last;
        }

        /** Goes from the bone up to its root, each bone turning what hangs on it. */
        int placeOf(int bone, int frame) {
            int x = localX(bone, frame);
            int y = localY(bone, frame);
            int up = parents[bone];
            for (int step = 0; step < MAX_BONES && up >= 0; step++) {
                int turns = poseAt(trackOf(up, TURN), frame);
                for (int turn = 0; turn < turns; turn++) {
                    int turnedX = -y;
                    y = x;
                    x = turnedX;
                }
                x += localX(up, frame);
                y += localY(up, frame);
                up = parents[up];
            }
            return 10000 * (x + 5000) + y + 5000;
        }

        private int localX(int bone, int frame) {
            return offsetsX[bone] + poseAt(trackOf(bone, 0), frame);
        }

        private int localY(int bone, int frame) {
            return offsetsY[bone] + poseAt(trackOf(bone, 1), frame);
        }

        private void poseTrack(int track) {
            int start = keys.startOf(track);
            int end = keys.startOf(track + 1);
            int next = start;
            for (int frame = 0; frame < FRAMES; frame++) {
                if (next < end && keys.frameAt(next) == frame) {
                    next++;
                }
                poseCell(track * FRAMES + frame, frame, start, next, end);
            }
        }

        /** Start and end bound the keys of the track, next is the first of them behind the frame. */
        private void poseCell(int cell, int frame, int start, int next, int end) {
            if (start == end) {
                poses[cell] = 0;
                setters[cell] = 0;
                return;
            }
            int last = next > start ? next - 1 : start;
            poses[cell] = keys.valueAt(last);
            setters[cell] = keys.setterBit(last);
            boolean isBetween = next < end && keys.frameAt(last) < frame;
            if (isBetween && keys.isSoft(last)) {
                poses[cell] += blend(last, next, frame);
                setters[cell] |= keys.setterBit(next);
            }
        }

        private int blend(int last, int next, int frame) {
            int gap = keys.frameAt(next) - keys.frameAt(last);
            if (gap <= 0) {
                return 0;
            }
            int difference = keys.valueAt(next) - keys.valueAt(last);
            return Math.floorDiv(difference * (frame - keys.frameAt(last)), gap);
        }
    }

    /** The frames that were rendered, with the values of which they were made. */
    private static final class Stills {
        private final int[] made = new int[MAX_TRACKS * FRAMES];
        private final int[] bonesThen = new int[FRAMES];
        private final int[] standings = new int[FRAMES];

        int standing(int frame) {
            return standings[frame];
        }

        boolean stands(int frame) {
            return standings[frame] == STANDING;
        }

        void render(int frame, Rig rig) {
            for (int track = 0; track < rig.trackCount(); track++) {
                made[track * FRAMES + frame] = rig.poseAt(track, frame);
            }
            bonesThen[frame] = rig.boneCount();
            standings[frame] = STANDING;
        }

        /** Is due behind each change of bones or keys. */
        void compareAll(Rig rig) {
            for (int frame = 0; frame < FRAMES; frame++) {
                if (standings[frame] != NOT_RENDERED) {
                    standings[frame] = isAsMade(frame, rig) ? STANDING : VOID;
                }
            }
        }

        int voidCount() {
            int count = 0;
            for (int frame = 0; frame < FRAMES; frame++) {
                if (standings[frame] == VOID) {
                    count++;
                }
            }
            return count;
        }

        int voidCountByAll(Rig rig) {
            int count = 0;
            for (int frame = 0; frame < FRAMES; frame++) {
                if (standings[frame] != NOT_RENDERED && !isAsMade(frame, rig)) {
                    count++;
                }
            }
            return count;
        }

        private boolean isAsMade(int frame, Rig rig) {
            if (bonesThen[frame] != rig.boneCount()) {
                return false;
            }
            for (int track = 0; track < rig.trackCount(); track++) {
                if (made[track * FRAMES + frame] != rig.poseAt(track, frame)) {
                    return false;
                }
            }
            return true;
        }
    }

    /** The shots in their order, and how often each frame is in them. */
    private static final class Film {
        private final int[] firsts = new int[MAX_SHOTS];
        private final int[] lasts = new int[MAX_SHOTS];
        private final int[] times = new int[FRAMES];
        private int shots = 0;
        private int frames = 0;

        int shotCount() {
            return shots;
        }

        int length() {
            return frames;
        }

        int timesOf(int frame) {
            return times[frame];
        }

        boolean needs(int frame) {
            return times[frame] > 0;
        }

        void insert(int place, int first, int last) {
            for (int shot = shots; shot > place; shot--) {
                firsts[shot] = firsts[shot - 1];
                lasts[shot] = lasts[shot - 1];
            }
            firsts[place] = first;
            lasts[place] = last;
            shots++;
            count(first, last, 1);
        }

        void remove(int place) {
            count(firsts[place], lasts[place], -1);
            shots--;
            for (int shot = place; shot < shots; shot++) {
                firsts[shot] = firsts[shot + 1];
                lasts[shot] = lasts[shot + 1];
            }
        }

        /** Returns the frame at a place that is less than the length. */
        int frameAt(int place) {
            int left = place;
            for (int shot = 0; shot < shots; shot++) {
                int size = lasts[shot] - firsts[shot] + 1;
                if (left < size) {
                    return firsts[shot] + left;
                }
                left -= size;
            }
            return 0;
        }

        private void count(int first, int last, int change) {
            for (int frame = first; frame <= last; frame++) {
                times[frame] += change;
                frames += change;
            }
        }
    }

    /** The machines, and the offers for their hours. */
    private static final class Farm {
        private final int[] speeds = new int[MAX_MACHINES];
        private final int[] heats = new int[MAX_MACHINES];
        private final boolean[] resting = new boolean[MAX_MACHINES];
        private int machines = 0;
        private final int[] prices = new int[MAX_OFFERS];
        private final int[] hoursLeft = new int[MAX_OFFERS];
        private int offers = 0;
        private int earned = 0;

        int machineCount() {
            return machines;
        }

        int offerCount() {
            return offers;
        }

        int earnings() {
            return earned;
        }

        int heatOf(int machine) {
            return 10 * heats[machine] + (resting[machine] ? 1 : 0);
        }

        int addMachine(int speed) {
            int number = machines;
            speeds[number] = speed;
            machines++;
            return number;
        }

        int addOffer(int price, int hours) {
            int number = offers;
            prices[number] = price;
            hoursLeft[number] = hours;
            offers++;
            return number;
        }

        /** Returns 1000 for each frame that was rendered and 1 for each hour that was sold. */
        int passHours(int hours, Film film, Stills stills, Rig rig) {
            int gain = 0;
            for (int hour = 0; hour < hours; hour++) {
                for (int machine = 0; machine < machines; machine++) {
                    gain += resting[machine] ? rest(machine) : work(machine, film, stills, rig);
                }
            }
            return gain;
        }

        private int rest(int machine) {
            cool(machine);
            resting[machine] = heats[machine] > COOL;
            return 0;
        }

        private int work(int machine, Film film, Stills stills, Rig rig) {
            int rendered = render(machine, film, stills, rig);
            int sold = rendered == 0 ? sell(machine) : 0;
            if (rendered == 0 && sold == 0) {
                cool(machine);
            }
            resting[machine] = heats[machine] >= HOT;
            return 1000 * rendered + sold;
        }

        private int render(int machine, Film film, Stills stills, Rig rig) {
            int rendered = 0;
            for (int frame = 0; frame < FRAMES && rendered < speeds[machine]; frame++) {
                if (film.needs(frame) && !stills.stands(frame)) {
                    stills.render(frame, rig);
                    rendered++;
                }
            }
            heats[machine] += rendered;
            return rendered;
        }

        private int sell(int machine) {
            int best = bestOffer();
            if (best < 0) {
                return 0;
            }
            hoursLeft[best]--;
            earned += prices[best];
            heats[machine] += SELLING_HEAT;
            return 1;
        }

        private int bestOffer() {
            int best = -1;
            for (int offer = 0; offer < offers; offer++) {
                if (hoursLeft[offer] > 0 && (best < 0 || prices[offer] > prices[best])) {
                    best = offer;
                }
            }
            return best;
        }

        private void cool(int machine) {
            heats[machine] = Math.max(0, heats[machine] - COOLING);
        }
    }
}
