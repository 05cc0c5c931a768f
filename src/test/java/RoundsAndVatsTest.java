/** Promises 8 to 15. */
public final class RoundsAndVatsTest {
    public static void main(String[] args) {
        addVat();
        beginRound();
        visit();
        visitOfAFullTanker();
        visitForTheLastLitre();
        visitOfTheLastLitre();
        visitAtAHundredSamples();
        endRound();
        endRoundOfNothing();
        endRoundAtSixtyShares();
        inTanker();
        inVat();
        bestVat();
        bestVatWithoutARound();
        close();
        closeAtTwentyBatches();
        Check.end();
    }

    private static void addVat() {
        MilkRound dairy = new MilkRound();
        for (int room : new int[] {99, 0, -1, 901, Integer.MIN_VALUE, Integer.MAX_VALUE}) {
            Check.refused(dairy, "8 addVat(" + room + ")", IllegalArgumentException.class, () -> dairy.addVat(room));
        }
        Check.due("8 addVat(100)", 0, dairy.addVat(100));
        Check.due("8 addVat(900)", 1, dairy.addVat(900));
        Check.due("8 addVat(500)", 2, dairy.addVat(500));
        Check.due("8 addVat(500)", 3, dairy.addVat(500));
        Check.due("8 inVat(3)", 0, dairy.inVat(3));
        Check.refused(dairy, "8 addVat(500), a fifth", IllegalStateException.class, () -> dairy.addVat(500));
        Check.refused(dairy, "8 addVat(99), a fifth", IllegalArgumentException.class, () -> dairy.addVat(99));
    }

    private static void beginRound() {
        MilkRound dairy = Dairies.withFarms(1);
        dairy.addVat(100);
        Check.due("9 beginRound()", 1, dairy.beginRound());
        Check.refused(dairy, "9 beginRound() in a round", IllegalStateException.class, dairy::beginRound);
        dairy.visit(0);
        dairy.endRound(0);
        Check.due("9 beginRound() again", 2, dairy.beginRound());
        Check.due("9 visit(0), visited in the round before", 0, dairy.visit(0));
        dairy.endRound(0);
        Check.due("9 beginRound() a third time", 3, dairy.beginRound());
    }

    private static void visit() {
        MilkRound dairy = new MilkRound();
        Check.refused(dairy, "10 visit(0) without farms", IndexOutOfBoundsException.class, () -> dairy.visit(0));
        dairy.addFarm(100);
        dairy.addFarm(100);
        dairy.addCow(0, 25);
        Check.refused(dairy, "10 visit(0) without a round", IllegalStateException.class, () -> dairy.visit(0));
        Check.refused(dairy, "10 visit(2) without a round", IndexOutOfBoundsException.class, () -> dairy.visit(2));
        dairy.pass(5);
        dairy.beginRound();
        Check.refused(dairy, "10 visit(-1)", IndexOutOfBoundsException.class, () -> dairy.visit(-1));
        Check.refused(dairy, "10 visit(2)", IndexOutOfBoundsException.class, () -> dairy.visit(2));
        Check.due("10 visit(0)", 100, dairy.visit(0));
        Check.due("10 inTank(0) after it", 0, dairy.inTank(0));
        Check.due("10 samples() after it", 1, dairy.samples());
        Check.due("10 farmOf(0)", 0, dairy.farmOf(0));
        Check.due("10 litres(0)", 100, dairy.litres(0));
        dairy.pass(1);
        Check.refused(dairy, "10 visit(0) again", IllegalStateException.class, () -> dairy.visit(0));
        Check.due("10 visit(1), nothing in it", 0, dairy.visit(1));
        Check.due("10 samples() after nothing", 1, dairy.samples());
        Check.refused(dairy, "10 visit(1) again", IllegalStateException.class, () -> dairy.visit(1));
    }

    private static void visitOfAFullTanker() {
        MilkRound dairy = Dairies.withFullTanks(150, 150, 150, 70);
        dairy.addVat(900);
        dairy.beginRound();
        Check.due("10 visit(0)", 150, dairy.visit(0));
        Check.due("10 visit(1)", 150, dairy.visit(1));
        Check.due("10 visit(2), room for 100", 100, dairy.visit(2));
        Check.due("10 inTank(2), what is left", 50, dairy.inTank(2));
        Check.due("10 inTanker(), full", 400, dairy.inTanker());
        Check.due("10 visit(3), no room", 0, dairy.visit(3));
        Check.due("10 inTank(3), untouched", 70, dairy.inTank(3));
        Check.due("10 samples()", 3, dairy.samples());
        Check.refused(dairy, "10 visit(3) again", IllegalStateException.class, () -> dairy.visit(3));
        dairy.endRound(0);
        dairy.beginRound();
        Check.due("10 visit(2) in the next round", 50, dairy.visit(2));
    }

    private static void visitForTheLastLitre() {
        MilkRound dairy = Dairies.withFullTanks(200, 199, 100);
        dairy.addVat(900);
        dairy.beginRound();
        dairy.visit(0);
        dairy.visit(1);
        Check.due("10 visit(2), room for 1", 1, dairy.visit(2));
        Check.due("10 samples() with one of 1 litre", 3, dairy.samples());
        Check.due("10 inTanker(), full", 400, dairy.inTanker());
        dairy.endRound(0);
        dairy.close(0);
        dairy.grade(2, 'x');
        Check.due("22 stateOf(0), 1 litre is spoilt", 'x', dairy.stateOf(0));
        dairy.grade(0, 'a');
        dairy.grade(1, 'a');
        Check.due("27 blame(2) for 1 litre", 399L * 40, dairy.blame(2));
    }

    private static void visitOfTheLastLitre() {
        MilkRound dairy = Dairies.withFullTanks(200, 101, 100);
        dairy.addVat(900);
        dairy.addVat(100);
        dairy.beginRound();
        dairy.visit(0);
        dairy.visit(2);
        Check.due("10 visit(1), 1 litre stays", 100, dairy.visit(1));
        dairy.endRound(0);
        dairy.beginRound();
        Check.due("10 visit(1), the 1 litre", 1, dairy.visit(1));
        dairy.endRound(1);
        Check.due("15 close(1), 1 litre", 0, dairy.close(1));
        dairy.grade(3, 'a');
        Check.due("31 meanPay() of 1 litre", 40d, dairy.meanPay());
    }

    private static void visitAtAHundredSamples() {
        MilkRound dairy = Dairies.withFarms(6);
        dairy.addVat(900);
        for (int round = 0; round < 16; round++) {
            Dairies.collect(dairy, 6, 0);
            dairy.close(0);
            dairy.pass(1);
        }
        dairy.beginRound();
        for (int farm = 0; farm < 4; farm++) {
            Check.due("10 visit(" + farm + ") of the 17th round", 5, dairy.visit(farm));
        }
        Check.due("10 samples()", 100, dairy.samples());
        Check.refused(dairy, "10 visit(4), a 101st sample", IllegalStateException.class, () -> dairy.visit(4));
        Check.refused(dairy, "10 visit(6) at 100 samples", IndexOutOfBoundsException.class, () -> dairy.visit(6));
        Check.due("10 endRound(0)", 20, dairy.endRound(0));
        dairy.beginRound();
        Check.refused(dairy, "10 visit(0), with nothing in it", IllegalStateException.class, () -> dairy.visit(0));
        Check.due("19 grade(99, 'a')", 99, dairy.grade(99, 'a'));
        dairy.close(0);
        dairy.grade(96, 'x');
        dairy.grade(97, 'b');
        Check.due("19 grade(98, 'x')", 96, dairy.grade(98, 'x'));
        Check.due("27 blame(0) in the last batch", (5L * 40 + 5 * 34) / 2, dairy.blame(0));
        for (int sample = 0; sample < 5; sample++) {
            dairy.grade(sample, 'c');
        }
        Check.due("19 grade(5, 'c')", 90, dairy.grade(5, 'c'));
        Check.due("26 pay(0) in the first batch", 5L * 25, dairy.pay(0));
        Check.due("23 share(16, 3)", 99, dairy.share(16, 3));
        Check.refused(dairy, "23 share(16, 4)", java.util.NoSuchElementException.class, () -> dairy.share(16, 4));
    }

    private static void endRound() {
        MilkRound dairy = Dairies.withFullTanks(150, 150);
        Check.refused(dairy, "11 endRound(0) without vats", IndexOutOfBoundsException.class, () -> dairy.endRound(0));
        dairy.addVat(299);
        dairy.addVat(300);
        Check.refused(dairy, "11 endRound(0) without a round", IllegalStateException.class, () -> dairy.endRound(0));
        Check.refused(dairy, "11 endRound(2) without a round", IndexOutOfBoundsException.class,
                () -> dairy.endRound(2));
        dairy.beginRound();
        dairy.visit(1);
        dairy.visit(0);
        Check.refused(dairy, "11 endRound(-1)", IndexOutOfBoundsException.class, () -> dairy.endRound(-1));
        Check.refused(dairy, "11 endRound(2)", IndexOutOfBoundsException.class, () -> dairy.endRound(2));
        Check.refused(dairy, "11 endRound(0), 1 litre too much", UnsupportedOperationException.class,
                () -> dairy.endRound(0));
        Check.due("11 endRound(1), just full", 300, dairy.endRound(1));
        Check.due("11 inTanker() after it", 0, dairy.inTanker());
        Check.refused(dairy, "11 endRound(1) again", IllegalStateException.class, () -> dairy.endRound(1));
        dairy.pass(1);
        dairy.beginRound();
        dairy.visit(1);
        Check.refused(dairy, "11 endRound(1), which is full", UnsupportedOperationException.class,
                () -> dairy.endRound(1));
        int left = dairy.inTanker();
        Check.due("11 endRound(0)", left, dairy.endRound(0));
        dairy.beginRound();
        dairy.visit(0);
        int more = dairy.inTanker();
        Check.due("11 endRound(0), on top", left + more, dairy.endRound(0));
    }

    private static void endRoundOfNothing() {
        MilkRound dairy = Dairies.withFullTanks(100);
        dairy.addVat(100);
        dairy.beginRound();
        Check.due("11 endRound(0) of an empty tanker", 0, dairy.endRound(0));
        dairy.beginRound();
        dairy.visit(0);
        Check.due("11 endRound(0)", 100, dairy.endRound(0));
        dairy.beginRound();
        dairy.visit(0);
        Check.due("11 endRound(0) of an empty tanker into a full vat", 100, dairy.endRound(0));
        Check.due("11 close(0)", 0, dairy.close(0));
        Check.refused(dairy, "11 share(0, 1)", java.util.NoSuchElementException.class, () -> dairy.share(0, 1));
    }

    private static void endRoundAtSixtyShares() {
        MilkRound dairy = Dairies.withFarms(6);
        dairy.addVat(900);
        dairy.addVat(900);
        for (int round = 0; round < 9; round++) {
            Dairies.collect(dairy, 6, 0);
            dairy.pass(1);
        }
        Dairies.collect(dairy, 5, 0);
        dairy.pass(1);
        dairy.beginRound();
        dairy.visit(0);
        dairy.visit(1);
        Check.refused(dairy, "11 endRound(0), 61 shares", UnsupportedOperationException.class,
                () -> dairy.endRound(0));
        Check.due("11 bestVat(), whatever the shares", 0, dairy.bestVat());
        Check.due("11 endRound(1), 2 shares", 10, dairy.endRound(1));
        dairy.beginRound();
        dairy.visit(2);
        Check.due("11 endRound(0), 60 shares", 9 * 30 + 25 + 5, dairy.endRound(0));
        dairy.beginRound();
        Check.due("11 endRound(0), 60 shares and none", 300, dairy.endRound(0));
        dairy.beginRound();
        dairy.visit(3);
        Check.refused(dairy, "11 endRound(0), 61 shares again", UnsupportedOperationException.class,
                () -> dairy.endRound(0));
        dairy.close(0);
        Check.due("11 share(0, 59)", 61, dairy.share(0, 59));
        Check.due("11 endRound(0) of the vat that is open again", 5, dairy.endRound(0));
    }

    private static void inTanker() {
        MilkRound dairy = Dairies.withFullTanks(60, 40);
        dairy.addVat(200);
        Check.due("12 inTanker() without a round", 0, dairy.inTanker());
        dairy.beginRound();
        Check.due("12 inTanker() at first", 0, dairy.inTanker());
        dairy.visit(0);
        Check.due("12 inTanker() after a visit", 60, dairy.inTanker());
        dairy.visit(1);
        Check.due("12 inTanker() after two", 100, dairy.inTanker());
        dairy.endRound(0);
        Check.due("12 inTanker() after the round", 0, dairy.inTanker());
        dairy.beginRound();
        Check.due("12 inTanker() in the next round", 0, dairy.inTanker());
    }

    private static void inVat() {
        MilkRound dairy = Dairies.withFullTanks(60, 40);
        Check.refused(dairy, "13 inVat(0) without vats", IndexOutOfBoundsException.class, () -> dairy.inVat(0));
        dairy.addVat(200);
        dairy.addVat(200);
        Check.refused(dairy, "13 inVat(-1)", IndexOutOfBoundsException.class, () -> dairy.inVat(-1));
        Check.refused(dairy, "13 inVat(2)", IndexOutOfBoundsException.class, () -> dairy.inVat(2));
        Check.due("13 inVat(1) at first", 0, dairy.inVat(1));
        dairy.beginRound();
        dairy.visit(0);
        Check.due("13 inVat(1) in a round", 0, dairy.inVat(1));
        dairy.endRound(1);
        Check.due("13 inVat(1) after it", 60, dairy.inVat(1));
        Check.due("13 inVat(0) after it", 0, dairy.inVat(0));
        dairy.beginRound();
        dairy.visit(1);
        dairy.endRound(1);
        Check.due("13 inVat(1) after two", 100, dairy.inVat(1));
        dairy.close(1);
        Check.due("13 inVat(1) when it is open again", 0, dairy.inVat(1));
    }

    private static void bestVat() {
        MilkRound dairy = Dairies.withFullTanks(100, 150, 150);
        dairy.addVat(300);
        dairy.addVat(200);
        dairy.addVat(200);
        dairy.addVat(120);
        dairy.beginRound();
        Check.due("14 bestVat() of an empty tanker", 3, dairy.bestVat());
        dairy.visit(0);
        Check.due("14 bestVat() for 100", 3, dairy.bestVat());
        dairy.endRound(1);
        dairy.beginRound();
        dairy.visit(1);
        Check.due("14 bestVat() for 150", 2, dairy.bestVat());
        dairy.endRound(2);
        Check.due("14 bestVat(), 50 free", 2, dairy.bestVat());
        dairy.beginRound();
        dairy.visit(2);
        Check.due("14 bestVat() for 150, only one", 0, dairy.bestVat());
        dairy.endRound(0);
        dairy.pass(30);
        dairy.beginRound();
        dairy.visit(1);
        dairy.visit(0);
        Check.refused(dairy, "14 bestVat() for 250", java.util.NoSuchElementException.class, dairy::bestVat);
        dairy.close(0);
        Check.due("14 bestVat() for 250 after a close", 0, dairy.bestVat());
    }

    private static void bestVatWithoutARound() {
        MilkRound dairy = Dairies.withFullTanks(200);
        Check.refused(dairy, "14 bestVat() without vats", java.util.NoSuchElementException.class, dairy::bestVat);
        dairy.addVat(200);
        dairy.addVat(150);
        dairy.addVat(150);
        Check.due("14 bestVat() without a round, the lowest of two", 1, dairy.bestVat());
        dairy.beginRound();
        dairy.visit(0);
        Check.due("14 bestVat(), just room", 0, dairy.bestVat());
        dairy.endRound(0);
        Check.due("14 bestVat(), a full one has room for nothing", 0, dairy.bestVat());
    }

    private static void close() {
        MilkRound dairy = Dairies.withFullTanks(60, 40);
        Check.refused(dairy, "15 close(0) without vats", IndexOutOfBoundsException.class, () -> dairy.close(0));
        dairy.addVat(200);
        dairy.addVat(200);
        Check.refused(dairy, "15 close(-1)", IndexOutOfBoundsException.class, () -> dairy.close(-1));
        Check.refused(dairy, "15 close(2)", IndexOutOfBoundsException.class, () -> dairy.close(2));
        Check.refused(dairy, "15 close(0), empty", UnsupportedOperationException.class, () -> dairy.close(0));
        Dairies.collect(dairy, 2, 1);
        Check.refused(dairy, "15 close(0), still empty", UnsupportedOperationException.class, () -> dairy.close(0));
        Check.due("15 close(1)", 0, dairy.close(1));
        Check.due("15 batches()", 1, dairy.batches());
        Check.refused(dairy, "15 close(1), empty again", UnsupportedOperationException.class, () -> dairy.close(1));
        dairy.pass(1);
        dairy.beginRound();
        dairy.visit(0);
        dairy.endRound(0);
        dairy.beginRound();
        dairy.visit(1);
        Check.due("15 close(0) in a round", 1, dairy.close(0));
        Check.due("15 share(1, 0)", 2, dairy.share(1, 0));
        Check.due("15 wayOf(3), in the tanker all the same", 't', dairy.wayOf(3));
    }

    private static void closeAtTwentyBatches() {
        MilkRound dairy = Dairies.withFarms(1);
        dairy.addVat(100);
        dairy.addVat(100);
        for (int batch = 0; batch < 20; batch++) {
            Dairies.collect(dairy, 1, 0);
            Check.due("15 close(0)", batch, dairy.close(0));
            dairy.pass(1);
        }
        Dairies.collect(dairy, 1, 0);
        Check.refused(dairy, "15 close(0), a 21st", IllegalStateException.class, () -> dairy.close(0));
        Check.refused(dairy, "15 close(1), empty, a 21st", UnsupportedOperationException.class, () -> dairy.close(1));
        Check.refused(dairy, "15 close(2), a 21st", IndexOutOfBoundsException.class, () -> dairy.close(2));
        Check.due("15 inVat(0), not closed", 5, dairy.inVat(0));
    }
}
