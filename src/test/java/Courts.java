/** Makes the objects that the tests ask. */
final class Courts {
    private Courts() {
    }

    /** An object with some variables and arrows: from, to, from, to, and so on. */
    static EffectCourt of(int size, int... arrows) {
        EffectCourt court = new EffectCourt();
        for (int count = 0; count < size; count++) {
            court.variable();
        }
        for (int number = 0; number + 1 < arrows.length; number += 2) {
            court.arrow(arrows[number], arrows[number + 1]);
        }
        return court;
    }

    /** Arrows from each variable to the next one. */
    static EffectCourt chain(int size) {
        EffectCourt court = of(size);
        for (int to = 1; to < size; to++) {
            court.arrow(to - 1, to);
        }
        return court;
    }

    /** Arrows from each variable to all higher ones. */
    static EffectCourt all(int size) {
        EffectCourt court = of(size);
        for (int to = 0; to < size; to++) {
            for (int from = 0; from < to; from++) {
                court.arrow(from, to);
            }
        }
        return court;
    }

    /** The same object with hidden causes more: one, other, one, other, and so on. */
    static EffectCourt hiding(EffectCourt court, int... pairs) {
        for (int number = 0; number + 1 < pairs.length; number += 2) {
            court.hide(pairs[number], pairs[number + 1]);
        }
        return court;
    }

    /** The same object with the bits of its variables, from 0 on. */
    static EffectCourt withBits(EffectCourt court, int... bits) {
        for (int variable = 0; variable < bits.length; variable++) {
            court.setBits(variable, bits[variable]);
        }
        return court;
    }
}
