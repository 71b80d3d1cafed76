/** All that can be seen of a plant, read with some 230 calls; the reading spoils the plant. */
final class State {
    /** With the calls of the run ahead of it this stays below the 512 for which answers are promised. */
    static final int CALLS = 240;

    private State() {
    }

    static String of(SaltPlant x) {
        StringBuilder seen = new StringBuilder();
        for (int what = 0; what < 3; what++) {
            seen.append(" feed ").append(what).append(": ").append(x.flow(0, what));
        }
        seen.append(" days: ").append(x.count(2));
        for (int place = 0; place < 72; place++) {
            int skin = 100 * (place / 24) + 10 * (place / 6 % 4) + place % 6;
            seen.append(" skin ").append(skin).append(": ").append(x.told(skin, 0)).append('/').append(x.told(skin, 1));
        }
        for (int stage = 0; stage < 3; stage++) {
            seen.append(" stage ").append(stage).append(": ").append(x.stage(stage, 1));
        }
        seen.append(" long: ").append(x.length(1));
        for (int which = 0; which < 7; which++) {
            seen.append(" rule ").append(which).append(": ").append(x.rule(which, 1));
        }
        for (int hour = 0; hour < 12; hour++) {
            seen.append(" hour ").append(hour).append(": ").append(x.hour(hour, 0, 0)).append('/').append(x.hour(hour, 1, 0));
        }
        for (int place = 0; place < 24; place++) {
            seen.append(" place ").append(place).append(": ").append(x.mark(0, place, 0)).append('/').append(x.mark(1, place, 0));
        }
        return seen.toString();
    }
}
