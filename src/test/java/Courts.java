/** Makes the objects that the tests ask. */
final class Courts {
    private Courts() {
    }

    /** An object with some variables and arrows: from, to, from, to, and so on. */
    static EffectCourt of(int size, int... arrows) {
        EffectCourt court = new EffectCourt();
        for (int count = 0; count < size; count++) {
            court.variable();
        }
        for (int number = 0; number + 1 < arrows.length; number += 2) {
            court.arrow(arrows[number], arrows[number + 1]);
        }
        return court;
    }
}
