/** Promises 31 and 32: save and restore. */
final class SlotTest {
    public static void main(String[] args) {
        wrongSlots();
        savesAndRestores();
        slotsAreApart();
        Check.end();
    }

    private static void wrongSlots() {
        FadingSheets x = new FadingSheets();
        Check.noSuch("save(-1)", () -> x.save(-1));
        Check.noSuch("save(2)", () -> x.save(2));
        Check.noSuch("restore(-1)", () -> x.restore(-1));
        Check.noSuch("restore(2)", () -> x.restore(2));
        Check.notNow("restore(0) of nothing", () -> x.restore(0));
        x.save(0);
        Check.notNow("restore(1) of nothing", () -> x.restore(1));
        Check.due("restore(0)", 0, () -> x.restore(0));
    }

    private static void savesAndRestores() {
        FadingSheets x = Texts.loaded("Fttr0103u0u0w01234569c003k000h07g00h01");
        x.copy(0, 0);
        Check.due("save(0)", 8, () -> x.save(0));
        String saved = Looks.all(x);
        Check.due("save() is no action", 0, x::undo);
        x.town();
        x.road(1, 2, 4);
        x.runner(2);
        x.write(2, 5, 5);
        x.hours(60);
        x.lay(0);
        x.copy(1, 3);
        x.go(1, 0);
        x.append('t');
        Check.due("restore(0)", 8, () -> x.restore(0));
        Check.isTrue("all as saved", saved.equals(Looks.all(x)));
        Check.notNow("undo() behind restore()", x::undo);
        Check.due("the text is kept", 39, x::clearText);
        x.hours(2);
        Check.due("restore() is no action", 0, x::undo);
        x.hours(2);
        Check.due("the slot keeps it", 8, () -> x.restore(0));
        Check.isTrue("all as saved", saved.equals(Looks.all(x)));
        Check.due("refused as saved", 1, () -> x.about(8));
    }

    private static void slotsAreApart() {
        FadingSheets x = new FadingSheets();
        x.town();
        x.save(0);
        x.hours(5);
        Check.due("save(1)", 5, () -> x.save(1));
        x.hours(6);
        Check.due("restore(0)", 0, () -> x.restore(0));
        Check.due("restore(1)", 5, () -> x.restore(1));
        x.hours(1);
        Check.due("save(1) over it", 6, () -> x.save(1));
        Check.due("restore(0)", 0, () -> x.restore(0));
        Check.due("restore(1)", 6, () -> x.restore(1));
        x.hours(1);
        x.undo();
        Check.due("undo() changes no slot", 0, () -> x.restore(0));
        Check.notNow("load() without a text", x::load);
        Check.due("restore(1)", 6, () -> x.restore(1));
        Texts.put(x, "F");
        x.load();
        Check.notNow("restore(0) behind load()", () -> x.restore(0));
        x.save(0);
        Check.due("restore(0)", 0, () -> x.restore(0));
        Check.notNow("restore(1) behind load()", () -> x.restore(1));
    }
}
