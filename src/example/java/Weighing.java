public final class Weighing {
    public static void main(String[] args) {
        SilkHouse house = new SilkHouse();

        // A bale of that gross weight; three skeins in each of two looks: scale, raw, dry, oven, hand.
        int bale = house.bale(10000);
        for (int look = 0; look < 2; look++) {
            for (int k = 0; k < 3; k++) {
                house.skein(bale, look, 0, 1000, 902, 0, 0);
            }
        }
        System.out.println(house.state(bale, 0));         // 1: it is SETTLED on day 0
        System.out.println(house.lawful(bale, 0, 0));     // 50061: its lawful weight, the upper number ..
        System.out.println(house.lawful(bale, 0, 1));     // 5: .. and the lower one

        // Rules are texts, in force from a day on.
        feed(house, "let water 100; take least;");
        System.out.println(house.rule(5));                // 0: a rule from day 5 on, the first there is
        System.out.println(house.force(0, 4));            // 110: water on day 4 ..
        System.out.println(house.force(0, 5));            // 100: .. and on day 5
        feed(house, "let water 301;");
        System.out.println(house.rule(5));                // -12: no rule; the text has FAULT 2 ..
        System.out.println(house.fault());                // 10: .. at byte 10

        // Looks that part, and what made them part.
        System.out.println(house.go(5));                  // 5: the day that it is now
        int wet = house.skein(bale, 1, 0, 1000, 800, 3, 3);
        System.out.println(house.state(bale, 5));         // 2: it is PARTED
        System.out.println(house.cause(bale, -1));        // 1: there is one cause ..
        System.out.println(house.cause(bale, 0));         // 106: .. skein 6
        System.out.println(house.certify(bale));          // -100003: NOT, the bale is not SETTLED
        house.lose(wet);

        // Papers, and what stood on a day.
        System.out.println(house.certify(bale));          // 0: the first paper, a certificate ..
        System.out.println(house.paper(0, 2));            // 9922: .. of that weight
        System.out.println(house.bill(0, 3));             // 1: a bill on it, at a price of 3
        System.out.println(house.stood(5, 0));            // 29766: what all bills were worth on day 5
        System.out.println(house.stood(4, 0));            // 0: there were none on day 4
    }

    /** Puts a text behind THE TEXT, a byte a call; a call may also bring up to eight. */
    private static void feed(SilkHouse house, String text) {
        for (int k = 0; k < text.length(); k++) {
            house.feed(1, text.charAt(k));
        }
    }
}
