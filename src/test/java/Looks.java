/** Tells all that can be seen of an object. */
final class Looks {
    /** How many calls all() makes at most: of a full country, and four to know how much there is. */
    static final int MOST_CALLS_ALL = 10 + 10 * 3 + 5 * 4 + 12 * 8 + 6 + 4;
    /** How many calls deep() makes at most: of all(), of 15 times undo, of two slots, and two of the text. */
    static final int MOST_CALLS_DEEP = MOST_CALLS_ALL + 15 * 4 + 2 * 8 + 2;

    private Looks() {
    }

    /** All that can be seen without changing anything. */
    static String all(FadingSheets x) {
        StringBuilder told = new StringBuilder();
        for (int what = 0; what <= 9; what++) {
            told.append(x.about(what)).append(' ');
        }
        int roads = x.about(1);
        for (int w = 0; w < roads; w++) {
            for (int what = 0; what <= 2; what++) {
                told.append(x.roadOf(w, what)).append(' ');
            }
        }
        int runners = x.about(2);
        for (int r = 0; r < runners; r++) {
            for (int what = 0; what <= 3; what++) {
                told.append(x.runnerOf(r, what)).append(' ');
            }
        }
        int sheets = x.about(4);
        for (int s = 0; s < sheets; s++) {
            for (int what = 0; what <= 7; what++) {
                told.append(x.sheetOf(s, what)).append(' ');
            }
        }
        int messages = x.about(3);
        for (int m = 0; m < messages; m++) {
            told.append(x.message(m)).append(' ');
        }
        return told.toString();
    }

    /** All that is there, the text, the remembered states and the save slots too; little of it is left behind. */
    static String deep(FadingSheets x) {
        StringBuilder told = new StringBuilder(all(x));
        told.append("text ").append(x.errorPosition()).append(' ');
        undoAll(x, told);
        for (int slot = 0; slot < 2; slot++) {
            told.append("slot ");
            try {
                told.append(x.restore(slot)).append(' ');
                for (int what = 0; what <= 8; what += what < 4 ? 1 : 2) {
                    told.append(x.about(what)).append(' ');
                }
            } catch (IllegalStateException e) {
                told.append("empty ");
            }
        }
        return told.append("text ").append(x.clearText()).toString();
    }

    private static void undoAll(FadingSheets x, StringBuilder told) {
        try {
            for (int i = 0; i < 15; i++) {
                told.append("undo ").append(x.undo()).append(' ').append(x.about(0)).append(' ');
                told.append(x.about(5)).append(' ').append(x.about(8)).append(' ');
            }
            told.append("more");
        } catch (IllegalStateException e) {
            told.append("none ");
        }
    }
}
