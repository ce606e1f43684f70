/** Puts texts into objects. */
final class Texts {
    private Texts() {
    }

    static void put(FadingSheets x, String text) {
        x.clearText();
        for (char sign : text.toCharArray()) {
            x.append(sign);
        }
    }

    static FadingSheets loaded(String text) {
        FadingSheets x = new FadingSheets();
        put(x, text);
        x.load();
        return x;
    }
}
