/** Drives that several tests begin with. */
final class Scenes {
    private Scenes() {
    }

    /** Spots at these cells: track, sector, track, sector, .. */
    static ScratchMap withSpots(int... places) {
        ScratchMap x = new ScratchMap();
        failAll(x, places);
        return x;
    }

    static void failAll(ScratchMap x, int... places) {
        for (int i = 0; i < places.length; i += 2) {
            x.fail(places[i], places[i + 1]);
        }
    }

    static void farAndWide(ScratchMap x) {
        x.set(1, 8);
        x.set(2, 6);
    }

    /** The rows of three of the tracks' spots cover the track's sectors 0 to 22. */
    static void jamTrack(ScratchMap x, int track) {
        failAll(x, track, 0, track, 8, track, 16);
    }

    /**
     * 12 spots, 11 lines: of the spare cells 503, 527, 551 and 575 are good, and of the homes those of the
     * tracks 14 to 19 in the sectors 0, 8 and 16 are avoided.
     */
    static ScratchMap jammed() {
        ScratchMap x = new ScratchMap();
        jam(x);
        return x;
    }

    static void jam(ScratchMap x) {
        farAndWide(x);
        for (int track = 20; track < 24; track++) {
            jamTrack(x, track);
        }
    }

    static void type(ScratchMap x, String text) {
        for (int i = 0; i < text.length(); i++) {
            x.append(text.charAt(i));
        }
    }
}
