/** Drives that several tests begin with. */
final class Scenes {
    private Scenes() {
    }

    /** Spots at these cells: track, sector, track, sector, .. */
    static ScratchMap withSpots(int... places) {
        ScratchMap x = new ScratchMap();
        failAll(x, places);
        return x;
    }

    static void failAll(ScratchMap x, int... places) {
        for (int i = 0; i < places.length; i += 2) {
            x.fail(places[i], places[i + 1]);
        }
    }

    static void farAndWide(ScratchMap x) {
        x.set(1, 8);
        x.set(2, 6);
    }

    /** The rows of three of the tracks' spots cover the track's sectors 0 to 22. */
    static void jamTrack(ScratchMap x, int track) {
        failAll(x, track, 0, track, 8, track, 16);
    }

    /**
     * 12 spots, 11 lines: of the spare cells 503, 527, 551 and 575 are good, and of the homes those of the
     * tracks 14 to 19 in the sectors 0, 8 and 16 are avoided.
     */
    static ScratchMap jammed() {
        ScratchMap x = new ScratchMap();
        jam(x);
        return x;
    }

    static void jam(ScratchMap x) {
        farAndWide(x);
        for (int track = 20; track < 24; track++) {
            jamTrack(x, track);
        }
    }

    /**
     * A jam whose four good spares are taken, by the blocks 336, 344, 352 and 360. The block 0 is at its good
     * home and 384 at its avoided one; 368 and 376 have no value, and an avoided home.
     */
    static ScratchMap withoutRoom() {
        ScratchMap x = new ScratchMap();
        x.write(0, 1);
        x.write(384, 7);
        jam(x);
        for (int block = 336; block <= 360; block += 8) {
            x.write(block, 5);
        }
        return x;
    }

    /** 12 spots that make 17 lines; more were not found, by a long search. */
    static ScratchMap withManyLines() {
        ScratchMap x = withSpots(4, 5, 0, 5, 6, 3, 3, 4, 4, 3, 0, 7, 3, 5, 6, 7, 0, 3, 4, 7, 6, 5, 3, 6);
        x.set(1, 8);
        return x;
    }

    /** So that there is no room after an undo() either. */
    static ScratchMap withoutRoomForLong() {
        ScratchMap x = withoutRoom();
        x.drop(100);
        return x;
    }

    /** All homes have values, and more than 96 of them are avoided. */
    static ScratchMap crowded() {
        ScratchMap x = new ScratchMap();
        for (int first = 0; first < 480; first += 48) {
            x.fill(first, 48, 1);
        }
        farAndWide(x);
        for (int track = 2; track < 6; track++) {
            jamTrack(x, track);
        }
        return x;
    }

    /** 96 blocks in spares can come back, and others, of higher numbers, must go there then. */
    static ScratchMap inNeedOfManyMoves() {
        ScratchMap x = crowded();
        x.tidy(99);
        for (int track = 2; track < 6; track++) {
            for (int sector = 0; sector <= 16; sector += 8) {
                x.heal(track, sector);
            }
        }
        for (int track = 12; track < 16; track++) {
            jamTrack(x, track);
        }
        return x;
    }

    /** No spare is free; the block 336 can come back from 503, and 416 is in a bad cell. */
    static ScratchMap withLowBlockToComeBack() {
        ScratchMap x = new ScratchMap();
        x.write(416, 1);
        jam(x);
        x.write(336, 2);
        x.set(2, 5);
        for (int block = 360; block <= 408; block += 8) {
            x.write(block, 3);
        }
        return x;
    }

    /** No spare is free; the block 479 can come back from 503, and 360 is in a bad cell. */
    static ScratchMap withHighBlockToComeBack() {
        ScratchMap x = new ScratchMap();
        x.write(360, 1);
        farAndWide(x);
        jamTrack(x, 20);
        x.fail(19, 23);
        x.write(479, 4);
        x.heal(19, 23);
        for (int track = 21; track < 24; track++) {
            jamTrack(x, track);
        }
        for (int block = 336; block <= 352; block += 8) {
            x.write(block, 2);
        }
        return x;
    }

    /** Six saved states, with older ones that were dropped; values lost and moved; a line; a text. */
    static ScratchMap worn() {
        ScratchMap x = new ScratchMap();
        x.fill(0, 48, 7);
        x.fill(432, 48, 8);
        failAll(x, 0, 0, 0, 1, 0, 2, 19, 23, 20, 1);
        x.tidy(1);
        x.write(0, 9);
        x.drop(30);
        x.set(2, 3);
        type(x, "1,2;-0,1");
        return x;
    }

    /** So many values written to the block 7, and all undone that can be. */
    static ScratchMap undone(int written) {
        ScratchMap x = new ScratchMap();
        for (int value = 0; value < written; value++) {
            x.write(7, value);
        }
        for (int left = x.count(9); left > 0; left--) {
            x.undo();
        }
        return x;
    }

    /** Spots at (0, 0) and (2, 2), and this text in the buffer. */
    static ScratchMap withText(String text) {
        ScratchMap x = withSpots(0, 0, 2, 2);
        x.drop(0);
        type(x, text);
        return x;
    }

    static void type(ScratchMap x, String text) {
        for (int i = 0; i < text.length(); i++) {
            x.append(text.charAt(i));
        }
    }
}
