/**
 * All that an object tells but status() and trace(), as a text. It is asked for what it can tell as it is first;
 * then what is hidden (wires, places, spoilings, what is kept) is brought to light by playing on.
 */
final class Picture {
    private final Player x;
    private final StringBuilder text = new StringBuilder();

    private Picture(Player x) {
        this.x = x;
    }

    static String of(Player x, boolean goesBack) {
        Picture it = new Picture(x);
        it.counts();
        it.rolls();
        it.instruments();
        it.stage();
        it.fallen();
        it.goOn(goesBack);
        return it.text.toString();
    }

    private void tell(String name, long... answers) {
        text.append(name);
        for (long a : answers) text.append(' ').append(a);
        text.append("; ");
    }

    private void counts() {
        for (int what = 0; what < 8; what++) tell("count", x.count(what));
    }

    private void rolls() {
        int n = x.count(0);
        for (int r = 0; r < n; r++) tell("roll", x.strips(r), x.digest(r));
    }

    /** Of many the first and the last ones: the calls are numbered. */
    private void instruments() {
        int n = x.count(1);
        for (int i = 0; i < n; i++) {
            if (i < 9 || i == n - 1) tell("instrument", x.frequency(i), x.members(i), x.times(i, 0), x.times(i, 1));
        }
    }

    private void stage() {
        for (int what = 0; what < 9; what++) tell("at", x.at(what));
        for (int track = 0; track < 8; track++) tell("track", x.level(track), x.open(track));
        for (int chest = 0; chest < 16; chest++) tell("stop", x.stop(chest));
        sounds();
        events();
    }

    private void sounds() {
        int n = x.count(4);
        for (int k = 0; k < n && k < 10; k++) tell("sound", x.sounding(k, 0), x.sounding(k, 1), x.sounding(k, 2));
        tell("loud", x.loud(0), x.loud(n - 1));
    }

    private void events() {
        int n = Math.min(1500, x.count(3));
        for (int k = Math.max(0, n - 9); k < n; k++) {
            tell("event", x.event(k, 0), x.event(k, 1), x.event(k, 2), x.event(k, 3));
        }
    }

    private void fallen() {
        int n = x.count(5);
        for (int k = 0; k < n; k++) {
            if (k < 4 || k == n - 1) tell("fallen", x.fallen(k, 0), x.fallen(k, 1));
        }
    }

    private void goOn(boolean goesBack) {
        if (goesBack) tell("back", x.back(2), x.back(1), x.back(0));
        tell("tick", x.tick(3), x.at(0), x.at(2), x.at(4), x.at(5), x.count(3));
        tell("halt", x.halt());
        openAll();
        int n = x.count(1);
        for (int i = 0; i < n && i < 9; i++) tell("spoil", x.spoil(i, 0));
    }

    private void openAll() {
        int r = x.count(0) < 20 ? x.roll() : 19;
        int s = x.strip(r, 0, 0, 1, 1);
        tell("open", s, x.punch(r, s, 0, 255), x.play(r), x.tick(1));
        events();
        sounds();
        tell("halt", x.halt());
    }
}
