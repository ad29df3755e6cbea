/** Boundary cases of machines, their heat, offers and nights. */
public final class FarmEdgeTests {
    private static final int LOW = Integer.MIN_VALUE;
    private static final int HIGH = Integer.MAX_VALUE;
    private static final Answers A = new Answers();

    public static void main(String[] args) {
        withoutMachines();
        speedRange();
        fourthMachine();
        fifthMachine();
        laterMachineIsCold();
        heatRange();
        priceRange();
        hoursRangeOfOffers();
        tenthOffer();
        eleventhOffer();
        refusedOfferIsNotSold();
        hoursRangeOfNights();
        refusedNight();
        longNightIsManyShortOnes();
        eachSpeed();
        fewerFramesThanSpeed();
        asManyFramesAsSpeed();
        oneFrameMoreThanSpeed();
        lowestFramesFirst();
        frameTwiceIsRenderedOnce();
        notNeededIsNotRendered();
        voidIsRenderedAgain();
        standingAgainIsNotRendered();
        lastFrameOfAll();
        machinesByRisingNumbers();
        renderingHourIsNotSold();
        heatOf19();
        heatOf20();
        heatOf21();
        heatOf22();
        heatOf23();
        heatOf24();
        endOfRestIsNoWork();
        warmIsNotResting();
        heatOf20BySelling();
        heatOf21BySelling();
        coolsTo0AtLeast();
        restingMachineSellsNot();
        oneRestsOneWorks();
        noOffer();
        offerOfOneHour();
        offerOfFiftyHours();
        highestPriceFirst();
        severalOfTheHighestPrice();
        soldOutHighestPrice();
        lastHourOfTheBestOffer();
        betterOfferLater();
        A.close("FarmEdgeTests");
    }

    /** A machine, and a film of the first frames. */
    private static KeyframeCourt withMachine(int speed, int frames) {
        KeyframeCourt c = Courts.withRoots(1);
        c.machine(speed);
        c.cut(0, 0, frames - 1);
        return c;
    }

    /** A machine of speed 5, heated by some frames to some heat of less than 5, then given all frames. */
    private static KeyframeCourt warmed(int heat) {
        KeyframeCourt c = withMachine(5, heat);
        c.night(1);
        c.cut(0, 0, 119);
        return c;
    }

    private static void heats(KeyframeCourt c, int... answers) {
        for (int answer : answers) {
            c.night(1);
            A.is("19 the heat an hour later", answer, () -> c.heat(0));
        }
    }

    private static void withoutMachines() {
        KeyframeCourt c = new KeyframeCourt();
        c.cut(0, 0, 119);
        c.offer(100, 50);
        A.is("18 nothing happens", 0, () -> c.night(24));
        A.is("13 nothing is rendered", 10, () -> c.state(0));
        A.is("23 nothing is sold", 0, () -> c.money(6));
        A.isMissing("19 machine 0", () -> c.heat(0));
    }

    private static void speedRange() {
        KeyframeCourt c = new KeyframeCourt();
        for (int speed : new int[] {LOW, -1, 0, 6, HIGH}) {
            A.isUnfit("16 speed " + speed, () -> c.machine(speed));
        }
        A.isMissing("19 there is none", () -> c.heat(0));
        A.is("16 speed 1", 0, () -> c.machine(1));
        A.is("16 speed 5", 1, () -> c.machine(5));
    }

    private static void fourthMachine() {
        KeyframeCourt c = withMachine(1, 120);
        c.machine(1);
        c.machine(1);
        A.isMissing("19 three alone", () -> c.heat(3));
        A.is("16 the fourth", 3, () -> c.machine(5));
        A.is("18 it works", 8000, () -> c.night(1));
        A.is("19 it is warm", 50, () -> c.heat(3));
    }

    private static void fifthMachine() {
        KeyframeCourt c = withMachine(1, 120);
        c.machine(1);
        c.machine(1);
        c.machine(1);
        A.isNotNow("16 of speed 1", () -> c.machine(1));
        A.isNotNow("16 of speed 5", () -> c.machine(5));
        A.isUnfit("16 of speed 0", () -> c.machine(0));
        A.isUnfit("16 of speed 6", () -> c.machine(6));
        A.isMissing("19 machine 4", () -> c.heat(4));
        A.is("18 four work", 4000, () -> c.night(1));
    }

    private static void laterMachineIsCold() {
        KeyframeCourt c = withMachine(5, 120);
        c.night(4);
        A.is("16 a second one", 1, () -> c.machine(5));
        A.is("19 the first rests", 201, () -> c.heat(0));
        A.is("19 the second is cold", 0, () -> c.heat(1));
        A.is("18 the second works", 5000, () -> c.night(1));
    }

    private static void heatRange() {
        KeyframeCourt c = withMachine(2, 10);
        c.machine(3);
        c.night(1);
        for (int machine : new int[] {LOW, -1, 2, HIGH}) {
            A.isMissing("19 machine " + machine, () -> c.heat(machine));
        }
        A.is("19 the first", 20, () -> c.heat(0));
        A.is("19 the last", 30, () -> c.heat(1));
    }

    private static void priceRange() {
        KeyframeCourt c = new KeyframeCourt();
        for (int price : new int[] {LOW, -1, 0, 101, HIGH}) {
            A.isUnfit("17 price " + price, () -> c.offer(price, 1));
        }
        c.machine(1);
        A.is("18 nothing to sell", 0, () -> c.night(1));
        A.is("17 price 1", 0, () -> c.offer(1, 1));
        A.is("17 price 100", 1, () -> c.offer(100, 1));
        c.night(1);
        A.is("23 100 first", 100, () -> c.money(6));
        c.night(1);
        A.is("23 then 1", 101, () -> c.money(6));
    }

    private static void hoursRangeOfOffers() {
        KeyframeCourt c = new KeyframeCourt();
        for (int hours : new int[] {LOW, -1, 0, 51, HIGH}) {
            A.isUnfit("17 hours " + hours, () -> c.offer(1, hours));
        }
        c.machine(1);
        A.is("18 nothing to sell", 0, () -> c.night(1));
        A.is("17 1 hour", 0, () -> c.offer(1, 1));
        A.is("17 50 hours", 1, () -> c.offer(1, 50));
    }

    private static KeyframeCourt withTenOffers() {
        KeyframeCourt c = new KeyframeCourt();
        c.machine(1);
        for (int number = 0; number < 10; number++) {
            c.offer(1 + number, 1);
        }
        return c;
    }

    private static void tenthOffer() {
        KeyframeCourt c = withTenOffers();
        A.is("18 an hour is sold", 1, () -> c.night(1));
        A.is("23 by the tenth", 10, () -> c.money(6));
        c.night(24);
        A.is("23 by all ten", 55, () -> c.money(6));
    }

    private static void eleventhOffer() {
        KeyframeCourt c = withTenOffers();
        A.isNotNow("17 the least", () -> c.offer(1, 1));
        A.isNotNow("17 the most", () -> c.offer(100, 50));
        A.isUnfit("17 price 101", () -> c.offer(101, 1));
        A.isUnfit("17 hours 0", () -> c.offer(1, 0));
        c.night(24);
        c.night(24);
        A.is("23 by the ten alone", 55, () -> c.money(6));
        A.isNotNow("17 those sold out are still there", () -> c.offer(1, 1));
    }

    private static void refusedOfferIsNotSold() {
        KeyframeCourt c = new KeyframeCourt();
        c.machine(1);
        A.isUnfit("17 hours 51", () -> c.offer(100, 51));
        A.isUnfit("17 price 101", () -> c.offer(101, 50));
        A.is("18 nothing to sell", 0, () -> c.night(24));
        A.is("17 the first one's number", 0, () -> c.offer(3, 1));
        c.night(24);
        A.is("23 by the first one", 3, () -> c.money(6));
    }

    private static void hoursRangeOfNights() {
        KeyframeCourt c = withMachine(1, 120);
        for (int hours : new int[] {LOW, -1, 0, 25, HIGH}) {
            A.isUnfit("18 hours " + hours, () -> c.night(hours));
        }
        A.is("18 1 hour", 1000, () -> c.night(1));
        // 19 hours to a heat of 20, 3 of rest, 2 of work.
        A.is("18 24 hours", 21000, () -> c.night(24));
        A.is("19 behind them", 100, () -> c.heat(0));
    }

    private static void refusedNight() {
        KeyframeCourt c = withMachine(5, 120);
        c.offer(1, 1);
        A.isUnfit("18 hours 0", () -> c.night(0));
        A.isUnfit("18 hours 25", () -> c.night(25));
        A.is("19 the machine is cold", 0, () -> c.heat(0));
        A.is("13 nothing is rendered", 10, () -> c.state(0));
        A.is("23 nothing is sold", 0, () -> c.money(6));
    }

    private static KeyframeCourt busy() {
        KeyframeCourt c = withMachine(5, 100);
        c.machine(3);
        c.offer(7, 9);
        c.offer(9, 5);
        return c;
    }

    private static void longNightIsManyShortOnes() {
        KeyframeCourt once = busy();
        KeyframeCourt often = busy();
        for (int night = 0; night < 3; night++) {
            int sum = 0;
            for (int hour = 0; hour < 24; hour++) {
                sum += often.night(1);
            }
            A.is("18 24 hours as 24 nights", sum, () -> once.night(24));
            A.is("19 the first", often.heat(0), () -> once.heat(0));
            A.is("19 the second", often.heat(1), () -> once.heat(1));
            A.is("23 earned", often.money(6), () -> once.money(6));
        }
        A.is("23 all was sold", 9 * 7 + 5 * 9, () -> once.money(6));
        A.is("13 all was rendered", 11, () -> once.state(99));
    }

    private static void eachSpeed() {
        for (int speed = 1; speed <= 5; speed++) {
            KeyframeCourt c = withMachine(speed, 120);
            A.is("18 frames in an hour", 1000 * speed, () -> c.night(1));
            A.is("19 heat of an hour", 10 * speed, () -> c.heat(0));
        }
    }

    private static void fewerFramesThanSpeed() {
        KeyframeCourt c = withMachine(5, 1);
        A.is("18 one frame", 1000, () -> c.night(1));
        A.is("19 heat of one frame", 10, () -> c.heat(0));
        A.is("18 none is left", 0, () -> c.night(1));
    }

    private static void asManyFramesAsSpeed() {
        KeyframeCourt c = withMachine(5, 5);
        A.is("18 five frames", 5000, () -> c.night(1));
        A.is("18 none is left", 0, () -> c.night(1));
    }

    private static void oneFrameMoreThanSpeed() {
        KeyframeCourt c = withMachine(5, 6);
        A.is("18 five frames", 5000, () -> c.night(1));
        A.is("18 one is left", 1000, () -> c.night(1));
        A.is("18 none is left", 0, () -> c.night(1));
    }

    private static void lowestFramesFirst() {
        KeyframeCourt c = Courts.withRoots(1);
        c.machine(2);
        c.cut(0, 50, 51);
        c.cut(1, 10, 12);
        A.is("18 two frames", 2000, () -> c.night(1));
        A.is("13 frame 11 of the second shot", 11, () -> c.state(11));
        A.is("13 frame 12 is not yet", 10, () -> c.state(12));
        A.is("13 frame 50 of the first shot is not yet", 10, () -> c.state(50));
        c.night(1);
        A.is("13 frame 50 behind frame 12", 11, () -> c.state(50));
        A.is("13 frame 51 is not yet", 10, () -> c.state(51));
    }

    private static void frameTwiceIsRenderedOnce() {
        KeyframeCourt c = withMachine(5, 2);
        c.cut(0, 0, 1);
        A.is("18 each once", 2000, () -> c.night(1));
        A.is("18 none is left", 0, () -> c.night(1));
    }

    private static void notNeededIsNotRendered() {
        KeyframeCourt c = withMachine(5, 2);
        c.uncut(0);
        A.is("18 a film without frames", 0, () -> c.night(24));
        A.is("13 not rendered", 0, () -> c.state(0));
        c.cut(0, 1, 1);
        A.is("18 what is needed then", 1000, () -> c.night(24));
        A.is("13 not rendered", 0, () -> c.state(0));
        A.is("13 rendered", 11, () -> c.state(1));
    }

    private static void voidIsRenderedAgain() {
        KeyframeCourt c = withMachine(5, 5);
        c.night(1);
        c.key(0, 0, 0, 0, 0, false);
        c.key(0, 0, 3, 1, 0, false);
        A.is("18 the two void ones", 2000, () -> c.night(1));
        A.is("14 none is void", 0, () -> c.voids());
        A.is("4 with what they are made of now", 2, () -> c.unkey(0, 0, 3));
    }

    private static void standingAgainIsNotRendered() {
        KeyframeCourt c = withMachine(5, 5);
        c.night(1);
        c.key(0, 0, 0, 1, 0, false);
        c.unkey(0, 0, 0);
        A.is("18 nothing to render", 0, () -> c.night(1));
    }

    private static void lastFrameOfAll() {
        KeyframeCourt c = Courts.withRoots(1);
        c.machine(1);
        c.cut(0, 119, 119);
        A.is("18 frame 119", 1000, () -> c.night(1));
        A.is("13 frame 119", 11, () -> c.state(119));
    }

    private static void machinesByRisingNumbers() {
        KeyframeCourt c = withMachine(2, 3);
        c.machine(2);
        c.machine(2);
        c.offer(5, 1);
        A.is("18 three frames and an hour", 3001, () -> c.night(1));
        A.is("19 the first has two frames", 20, () -> c.heat(0));
        A.is("19 the second has the last one", 10, () -> c.heat(1));
        A.is("19 the third has the hour", 30, () -> c.heat(2));
    }

    private static void renderingHourIsNotSold() {
        KeyframeCourt c = withMachine(5, 1);
        c.offer(100, 50);
        A.is("18 one frame, no hour", 1000, () -> c.night(1));
        A.is("23 nothing is earned", 0, () -> c.money(6));
        A.is("19 the heat of the frame alone", 10, () -> c.heat(0));
        A.is("18 the next hour is sold", 1, () -> c.night(1));
    }

    private static void heatOf19() {
        KeyframeCourt c = withMachine(1, 120);
        A.is("18 19 frames", 19000, () -> c.night(19));
        A.is("19 it does not rest", 190, () -> c.heat(0));
        A.is("18 it works", 1000, () -> c.night(1));
    }

    private static void heatOf20() {
        KeyframeCourt c = withMachine(5, 120);
        heats(c, 50, 100, 150, 201, 161, 121, 80, 130);
    }

    private static void heatOf21() {
        KeyframeCourt c = warmed(1);
        heats(c, 60, 110, 160, 211, 171, 131, 91, 50, 100);
    }

    private static void heatOf22() {
        KeyframeCourt c = warmed(2);
        heats(c, 70, 120, 170, 221, 181, 141, 101, 60, 110);
    }

    private static void heatOf23() {
        KeyframeCourt c = warmed(3);
        heats(c, 80, 130, 180, 231, 191, 151, 111, 70, 120);
    }

    private static void heatOf24() {
        KeyframeCourt c = warmed(4);
        heats(c, 90, 140, 190, 241, 201, 161, 121, 80, 130);
    }

    private static void endOfRestIsNoWork() {
        KeyframeCourt c = withMachine(5, 120);
        c.offer(1, 50);
        c.night(4);
        A.is("18 three hours of rest", 0, () -> c.night(3));
        A.is("19 it rests no more", 80, () -> c.heat(0));
        A.is("13 no frame behind the 20", 10, () -> c.state(20));
        A.is("18 then it works", 5000, () -> c.night(1));
    }

    private static void warmIsNotResting() {
        KeyframeCourt c = withMachine(5, 15);
        heats(c, 50, 100, 150, 110, 70);
        c.cut(0, 100, 104);
        A.is("18 it works at 7", 5000, () -> c.night(1));
        c.cut(0, 110, 114);
        A.is("18 it works at 12", 5000, () -> c.night(1));
        A.is("19 17 is not hot", 170, () -> c.heat(0));
    }

    private static void heatOf20BySelling() {
        KeyframeCourt c = withMachine(2, 2);
        c.offer(1, 50);
        heats(c, 20, 50, 80, 110, 140, 170, 201, 161, 121, 80, 110);
    }

    private static void heatOf21BySelling() {
        KeyframeCourt c = new KeyframeCourt();
        c.machine(5);
        c.offer(1, 50);
        heats(c, 30, 60, 90, 120, 150, 180, 211, 171, 131, 91, 50, 80);
    }

    private static void coolsTo0AtLeast() {
        for (int heat = 1; heat <= 5; heat++) {
            KeyframeCourt c = withMachine(5, heat);
            heats(c, 10 * heat, heat == 5 ? 10 : 0, 0, 0);
        }
        KeyframeCourt sold = new KeyframeCourt();
        sold.machine(1);
        sold.offer(1, 1);
        heats(sold, 30, 0, 0);
    }

    private static void restingMachineSellsNot() {
        KeyframeCourt c = withMachine(5, 20);
        c.offer(9, 50);
        c.night(4);
        A.is("18 hours of rest", 0, () -> c.night(3));
        A.is("23 nothing is sold", 0, () -> c.money(6));
        A.is("18 then it sells", 1, () -> c.night(1));
        A.is("23 an hour", 9, () -> c.money(6));
    }

    private static void oneRestsOneWorks() {
        KeyframeCourt c = withMachine(5, 120);
        c.machine(1);
        A.is("18 four hours of both", 24000, () -> c.night(4));
        A.is("18 three hours of the second", 3000, () -> c.night(3));
        A.is("19 the first", 80, () -> c.heat(0));
        A.is("19 the second", 70, () -> c.heat(1));
    }

    private static void noOffer() {
        KeyframeCourt c = withMachine(5, 5);
        c.night(1);
        A.is("18 nothing is sold", 0, () -> c.night(1));
        A.is("19 it cools", 10, () -> c.heat(0));
    }

    private static void offerOfOneHour() {
        KeyframeCourt c = new KeyframeCourt();
        c.machine(1);
        c.offer(8, 1);
        A.is("18 its hour", 1, () -> c.night(1));
        A.is("18 no hour is left", 0, () -> c.night(24));
        A.is("23 its hour", 8, () -> c.money(6));
    }

    private static void offerOfFiftyHours() {
        KeyframeCourt c = new KeyframeCourt();
        for (int machine = 0; machine < 4; machine++) {
            c.machine(1);
        }
        c.offer(100, 50);
        int sold = 0;
        for (int hour = 0; hour < 48; hour++) {
            sold += c.night(1);
        }
        int all = sold;
        A.is("18 fifty hours", 50, () -> all);
        A.is("18 no hour is left", 0, () -> c.night(24));
        A.is("23 fifty hours", 5000, () -> c.money(6));
    }

    private static void earned(KeyframeCourt c, int... sums) {
        for (int sum : sums) {
            c.night(1);
            A.is("23 earned an hour later", sum, () -> c.money(6));
        }
    }

    private static void highestPriceFirst() {
        KeyframeCourt c = new KeyframeCourt();
        c.machine(1);
        c.offer(99, 1);
        c.offer(100, 1);
        c.offer(98, 1);
        earned(c, 100, 199, 297, 297);
    }

    private static void severalOfTheHighestPrice() {
        KeyframeCourt c = new KeyframeCourt();
        c.machine(1);
        c.offer(3, 1);
        c.offer(7, 2);
        c.offer(7, 1);
        c.offer(5, 1);
        earned(c, 7, 14, 21, 26, 29, 29);
    }

    private static void soldOutHighestPrice() {
        KeyframeCourt c = new KeyframeCourt();
        c.machine(1);
        c.offer(100, 1);
        c.offer(1, 2);
        earned(c, 100, 101, 102, 102);
    }

    private static void lastHourOfTheBestOffer() {
        KeyframeCourt c = new KeyframeCourt();
        c.machine(1);
        c.machine(1);
        c.machine(1);
        c.offer(10, 1);
        c.offer(20, 1);
        A.is("18 two hours", 2, () -> c.night(1));
        A.is("23 of both", 30, () -> c.money(6));
        A.is("19 the first sold", 30, () -> c.heat(0));
        A.is("19 the second sold", 30, () -> c.heat(1));
        A.is("19 the third sold not", 0, () -> c.heat(2));
    }

    private static void betterOfferLater() {
        KeyframeCourt c = new KeyframeCourt();
        c.machine(1);
        c.offer(10, 3);
        earned(c, 10);
        c.offer(11, 1);
        earned(c, 21, 31, 41, 41);
    }
}
