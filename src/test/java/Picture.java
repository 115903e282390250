/** All that the looks of an object show, but for its digest, as a text. */
final class Picture {
    private Picture() {
    }

    static String of(ScratchMap x) {
        StringBuilder all = new StringBuilder();
        all.append(withoutSavedStates(x)).append(" saved ").append(x.count(9));
        all.append(" text ").append(x.firstError());
        return all.append(" digest ").append(x.digest()).toString();
    }

    static String withoutSavedStates(ScratchMap x) {
        StringBuilder all = new StringBuilder("counts");
        for (int what = 0; what < 9; what++) {
            all.append(' ').append(x.count(what));
        }
        all.append(" settings");
        for (int setting = 0; setting < 3; setting++) {
            all.append(' ').append(x.setting(setting));
        }
        all.append(" lines");
        for (int line = 0; line < x.count(1); line++) {
            for (int what = 0; what < 6; what++) {
                all.append(' ').append(x.line(line, what));
            }
        }
        addCells(all, x);
        addBlocks(all, x);
        all.append(" worst ").append(x.worst()).append(" untidy ").append(x.untidy());
        return all.append(" share ").append(x.goodShare()).toString();
    }

    private static void addCells(StringBuilder all, ScratchMap x) {
        all.append(" cells");
        for (int cell = 0; cell < 576; cell++) {
            for (int what = 0; what < 4; what++) {
                all.append(' ').append(x.cell(cell / 24, cell % 24, what));
            }
        }
    }

    private static void addBlocks(StringBuilder all, ScratchMap x) {
        all.append(" blocks");
        for (int block = 0; block < 480; block++) {
            for (int what = 0; what < 4; what++) {
                all.append(' ').append(x.block(block, what));
            }
        }
    }
}
