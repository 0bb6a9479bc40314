/** What an object tells without a change, in some forty calls, to be held against itself later. */
final class State {
    private State() {
    }

    static String of(PrivateCounts x) {
        StringBuilder state = new StringBuilder("D " + x.all());
        for (int what = 0; what <= 7; what++) {
            state.append(", told(").append(what).append(") ").append(x.told(what));
        }
        state.append(", rows of -3 .. 3");
        for (int v = -3; v <= 3; v++) {
            state.append(' ').append(x.count(v, v));
        }
        for (int which = 0; which <= 2; which++) {
            for (int part = 0; part <= 1; part++) {
                state.append(", limbs(").append(which).append(", ").append(part).append(')');
                int limbs = x.limb(which, part, -1);
                for (int k = 0; k < limbs; k++) {
                    state.append(' ').append(x.limb(which, part, k));
                }
            }
        }
        return state.toString();
    }
}
