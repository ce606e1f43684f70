/** Tells all that can be seen of an object without changing it. */
final class Looks {
    private Looks() {
    }

    static String all(FadingSheets x) {
        StringBuilder told = new StringBuilder();
        for (int what = 0; what <= 9; what++) {
            told.append(x.about(what)).append(' ');
        }
        for (int w = 0; w < x.about(1); w++) {
            for (int what = 0; what <= 2; what++) {
                told.append(x.roadOf(w, what)).append(' ');
            }
        }
        for (int r = 0; r < x.about(2); r++) {
            for (int what = 0; what <= 3; what++) {
                told.append(x.runnerOf(r, what)).append(' ');
            }
        }
        for (int s = 0; s < x.about(4); s++) {
            for (int what = 0; what <= 7; what++) {
                told.append(x.sheetOf(s, what)).append(' ');
            }
        }
        for (int m = 0; m < x.about(3); m++) {
            told.append(x.message(m)).append(' ');
        }
        return told.toString();
    }
}
