/** A state of a house that can be made anew, so that no house is asked beyond its 512th call. */
interface Scene {
    void fill(Overlayer house);

    default Overlayer house() {
        Overlayer house = new Overlayer();
        fill(house);
        return house;
    }

    /** This scene with more calls behind it. */
    default Scene with(Scene more) {
        return house -> {
            fill(house);
            more.fill(house);
        };
    }

    Scene NEW = house -> { };

    /** A session by the author 0 in a new house. */
    Scene BEGUN = house -> house.begin(0);

    /**
     * Outside of a session at the time 2, with 3 rules and 2 versions. Layer 0: area 1 with 13
     * squares and the value 82, area 2 with 14 and 29, area 3 with the squares 34 to 37 and 16,
     * area 9 with the square 255 and 9999. Layer 1: area 0 with the 64 squares up to x 7 and y 7
     * and the value 7, area 9 with the square 255. Layer 2, which copies: area 5 with the row of
     * y 8. Rule 2 alone is broken, at 10 pairs.
     */
    Scene BETWEEN = house -> {
        house.addRule('i', 0, 1);
        house.addRule('n', 0, 2);
        house.addRule('a', 1, 2);
        house.begin(1);
        house.paint(0, 1, 0, 0, 4, 4);
        house.paint(0, 2, 4, 0, 4, 4);
        house.paint(0, 9, 15, 15, 1, 1);
        house.setValue(0, 1, 100);
        house.setValue(0, 2, 33);
        house.setValue(0, 9, 9999);
        house.paint(1, 0, 0, 0, 8, 8);
        house.setValue(1, 0, 7);
        house.paint(1, 9, 15, 15, 1, 1);
        house.paint(2, 5, 0, 8, 16, 1);
        house.sign(2);
        house.keep();
        house.begin(4);
        house.paint(0, 3, 2, 2, 4, 1);
        house.paint(0, -1, 0, 0, 1, 1);
        house.sign(2);
        house.keep();
        house.setDivides(2, false);
        house.name(0, 1, 3);
        house.name(0, 2, 2);
        house.name(1, 0, 6);
        house.checkOut(0, 0, 0, 6, 6);
        house.checkOut(1, 14, 14, 2, 2);
        house.change(0, 17, 7);
        house.change(0, 35, -1);
        house.change(1, 255, 3);
    };

    /**
     * BETWEEN with a session by the author 3, who gave the squares 17 and 33 of layer 0 to the area
     * 6 with the value 15, and the square 131 of layer 2 to none, and signed rule 1. Layers 1 and 2
     * copy. Rule 2 is broken at 11 pairs and not signed; version 0 has the square 17 as a conflict.
     */
    Scene WITHIN = BETWEEN.with(house -> {
        house.begin(3);
        house.paint(0, 6, 1, 1, 1, 2);
        house.setValue(0, 6, 15);
        house.setDivides(1, false);
        house.sign(1);
        house.paint(2, -1, 3, 8, 1, 1);
    });

    /** 6 rules and 3 versions: as many as there can be. No rule is broken by layer 0 alone. */
    Scene ALL_RULES_AND_VERSIONS = house -> {
        for (int rule = 0; rule < 6; rule++) {
            house.addRule('n', rule / 2, (rule / 2 + 1 + rule % 2) % 3);
        }
        for (int version = 0; version < 3; version++) {
            house.checkOut(version, version, version, 16 - version, 16 - version);
        }
    };

    /** 39 kept sessions, by the authors in turn; each fourth gave a square of row 0 away. */
    Scene ONE_LEFT = ALL_RULES_AND_VERSIONS.with(house -> keepTo(house, 39));

    /** ONE_LEFT with its last session, by the author 2, which gave the squares 17 and 33. */
    Scene LAST_WITHIN = ONE_LEFT.with(house -> {
        house.begin(2);
        house.paint(0, 8, 1, 1, 1, 2);
        house.sign(5);
    });

    /** 40 kept sessions, 6 rules, 3 versions: nothing more can be begun or added. */
    Scene FULL = ALL_RULES_AND_VERSIONS.with(house -> keepTo(house, 40));

    static void keepTo(Overlayer house, int time) {
        for (int session = 0; session < time; session++) {
            house.begin(session % 6);
            if (session % 4 == 0) {
                house.paint(0, session / 4, session / 4, 0, 1, 1);
                house.setValue(0, session / 4, 9999 - session);
            }
            house.keep();
        }
    }
}
