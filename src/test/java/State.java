/** Tells an object whole, by its face alone. */
final class State {
    private State() {
    }

    static String of(Letterpeel x) {
        return of(x, 0);
    }

    /**
     * As it would be told if so many REFUSED had not been counted. The READER is taken back up to
     * what it was opened with, so that all its RESTS are told; the object is of no use behind that.
     */
    static String of(Letterpeel x, int refusals) {
        StringBuilder state = new StringBuilder();
        for (int what = 0; what < 6; what++) {
            state.append(x.house(what) - (what == 1 ? refusals : 0)).append(' ');
        }
        for (int cell = 0; cell < 6; cell++) {
            state.append(x.text(cell)).append(' ');
        }
        state.append(x.reader(0)).append(x.reader(1));
        for (int i = x.house(4); i > 0; i--) {
            x.back();
            state.append(' ').append(x.reader(0)).append(x.reader(1));
        }
        return state.toString();
    }
}
