/** Objects in the states with which several tests begin. */
final class Courts {
    private Courts() {
    }

    /** Bones of which each hangs on nothing. */
    static KeyframeCourt withRoots(int bones) {
        KeyframeCourt court = new KeyframeCourt();
        for (int bone = 0; bone < bones; bone++) {
            court.bone(-1, 0, 0);
        }
        return court;
    }

    /** Bones of which each hangs on the one ahead of it, all at one place. */
    static KeyframeCourt withChain(int bones) {
        KeyframeCourt court = new KeyframeCourt();
        for (int bone = 0; bone < bones; bone++) {
            court.bone(bone - 1, 0, 0);
        }
        return court;
    }

    /** One bone, a film of all frames, all of them rendered without keys, the machines cold. */
    static KeyframeCourt rendered() {
        KeyframeCourt court = withRoots(1);
        court.cut(0, 0, 119);
        court.machine(5);
        court.machine(5);
        passNights(court, 4);
        return court;
    }

    static void passNights(KeyframeCourt court, int nights) {
        for (int night = 0; night < nights; night++) {
            court.night(24);
        }
    }

    /** What the method place answers for a place. */
    static int at(int x, int y) {
        return 10000 * (x + 5000) + y + 5000;
    }
}
