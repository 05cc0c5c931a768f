/** The document's terms but the exceptions, sentence by sentence. */
public final class TermsTest {
    public static void main(String[] args) throws Exception {
        Sentences.ofTerms(TermsTest.class, "Days", "Farms", "Rounds", "Vats", "Batches", "Samples", "Money");
    }

    private static MilkRound withCow(int best) {
        MilkRound dairy = new MilkRound();
        dairy.addFarm(200);
        dairy.addCow(0, best);
        return dairy;
    }

    // ---- days

    @Sentence(of = "Days", says = "The day is 0 at first.")
    private static void firstDay() {
        MilkRound dairy = new MilkRound();
        Check.due("day()", 0, dairy.day());
        dairy.pass(1);
        Check.due("day() after a day", 1, dairy.day());
    }

    private static final String MILK = "On a day, a cow gives as many litres as its best, less the difference, "
            + "without its sign, of 5 and the remainder of the day by 10, but not fewer than 5.";

    @Sentence(of = "Days", says = MILK)
    private static void milkBeforeAndAfterTheFifthDay() {
        int[] due = {25, 26, 27, 28, 29, 30, 29, 28, 27, 26};
        MilkRound dairy = withCow(30);
        for (int day = 0; day < 10; day++) {
            Check.due("milkOf(0, " + day + ")", due[day], dairy.milkOf(0, day));
        }
    }

    @Sentence(of = "Days", says = MILK)
    private static void milkWhenTheRemainderBeginsAgain() {
        MilkRound dairy = withCow(30);
        for (int tens = 10; tens < 1000; tens += 10) {
            Check.due("milkOf(0, " + (tens - 1) + ")", 26, dairy.milkOf(0, tens - 1));
            Check.due("milkOf(0, " + tens + ")", 25, dairy.milkOf(0, tens));
            Check.due("milkOf(0, " + (tens + 1) + ")", 26, dairy.milkOf(0, tens + 1));
        }
        Check.due("milkOf(0, 995)", 30, dairy.milkOf(0, 995));
        Check.due("milkOf(0, 999)", 26, dairy.milkOf(0, 999));
    }

    @Sentence(of = "Days", says = MILK)
    private static void milkNotFewerThanFive() {
        MilkRound five = withCow(5);
        for (int day = 0; day < 10; day++) {
            Check.due("milkOf(0, " + day + ") of the best 5", 5, five.milkOf(0, day));
        }
        Check.due("milkOf(0, 4) of the best 6", 5, withCow(6).milkOf(0, 4));
        Check.due("milkOf(0, 3) of the best 6, 4 but for the least", 5, withCow(6).milkOf(0, 3));
        Check.due("milkOf(0, 0) of the best 9, 4 but for the least", 5, withCow(9).milkOf(0, 0));
        Check.due("milkOf(0, 1) of the best 9", 5, withCow(9).milkOf(0, 1));
        Check.due("milkOf(0, 2) of the best 9", 6, withCow(9).milkOf(0, 2));
        Check.due("milkOf(0, 0) of the best 10", 5, withCow(10).milkOf(0, 0));
        Check.due("milkOf(0, 0) of the best 11", 6, withCow(11).milkOf(0, 0));
    }

    @Sentence(of = "Days", says = MILK)
    private static void eachCowNotFewerThanFive() {
        MilkRound dairy = withCow(5);
        dairy.addCow(0, 30);
        Check.due("milkOf(0, 0) of the bests 5 and 30", 30, dairy.milkOf(0, 0));
    }

    // ---- farms

    @Sentence(of = "Farms", says = "At most 6 farms are numbered from 0.")
    private static void sixFarms() {
        MilkRound dairy = new MilkRound();
        for (int farm = 0; farm < 6; farm++) {
            Check.due("addFarm(10)", farm, dairy.addFarm(10));
            Check.due("inTank(" + farm + ")", 0, dairy.inTank(farm));
        }
        Check.badState(dairy, "addFarm(10), a seventh", () -> dairy.addFarm(10));
        Check.noIndex(dairy, "inTank(6)", () -> dairy.inTank(6));
        Check.noIndex(dairy, "inTank(-1)", () -> dairy.inTank(-1));
    }

    private static final String FARM = "A farm has a tank, which holds at most a number of litres, and cows, at most "
            + "5, each with a best from 5 to 30.";

    @Sentence(of = "Farms", says = FARM)
    private static void tankHoldsAtMost() {
        MilkRound dairy = new MilkRound();
        dairy.addFarm(100);
        dairy.addCow(0, 30);
        int[] due = {26, 53, 81, 100, 100};
        for (int day = 1; day <= 5; day++) {
            dairy.pass(1);
            Check.due("inTank(0) on day " + day, due[day - 1], dairy.inTank(0));
        }
    }

    @Sentence(of = "Farms", says = FARM)
    private static void atMostFiveCows() {
        MilkRound dairy = withCow(30);
        dairy.addFarm(100);
        for (int cows = 2; cows <= 5; cows++) {
            Check.due("addCow(0, 30)", cows, dairy.addCow(0, 30));
        }
        Check.badState(dairy, "addCow(0, 30), a sixth", () -> dairy.addCow(0, 30));
        Check.due("milkOf(0, 5)", 150, dairy.milkOf(0, 5));
        Check.due("addCow(1, 30)", 1, dairy.addCow(1, 30));
    }

    @Sentence(of = "Farms", says = FARM)
    private static void bestFromFiveToThirty() {
        MilkRound dairy = new MilkRound();
        dairy.addFarm(100);
        Check.badArgument(dairy, "addCow(0, 4)", () -> dairy.addCow(0, 4));
        Check.badArgument(dairy, "addCow(0, 31)", () -> dairy.addCow(0, 31));
        Check.due("addCow(0, 5)", 1, dairy.addCow(0, 5));
        Check.due("addCow(0, 30)", 2, dairy.addCow(0, 30));
        Check.due("milkOf(0, 5)", 35, dairy.milkOf(0, 5));
    }

    private static final String DAY_PASSES = "When a day passes, the day increases by 1, and then each farm's cows "
            + "give their milk of that day into its tank, in the order in which they were added, each as much as there "
            + "is room for; what there is no room for is poured away.";

    @Sentence(of = "Farms", says = DAY_PASSES)
    private static void milkOfTheNewDay() {
        MilkRound dairy = withCow(30);
        dairy.pass(1);
        Check.due("inTank(0), of day 1 and not of day 0", 26, dairy.inTank(0));
        dairy.pass(3);
        Check.due("inTank(0), of the days 1 to 4", 26 + 27 + 28 + 29, dairy.inTank(0));
    }

    @Sentence(of = "Farms", says = DAY_PASSES)
    private static void milkWhenTheDaysBeginAgain() {
        MilkRound dairy = withCow(30);
        dairy.addVat(900);
        dairy.pass(8);
        Dairies.round(dairy, 0, 0);
        dairy.pass(3);
        Check.due("inTank(0), of the days 9, 10 and 11", 26 + 25 + 26, dairy.inTank(0));
    }

    @Sentence(of = "Farms", says = DAY_PASSES)
    private static void cowsGiveAsMuchAsThereIsRoomFor() {
        MilkRound dairy = new MilkRound();
        dairy.addFarm(50);
        dairy.addCow(0, 30);
        dairy.addCow(0, 20);
        dairy.addCow(0, 10);
        Check.due("pass(1), 26 and 16, then 6", 0, dairy.pass(1));
        Check.due("inTank(0)", 48, dairy.inTank(0));
        Check.due("pass(1), room for 2 of the first cow's 27", 25 + 17 + 7, dairy.pass(1));
        Check.due("inTank(0), full", 50, dairy.inTank(0));
        Check.due("pass(1), no room for 28, 18 and 8", 54, dairy.pass(1));
    }

    @Sentence(of = "Farms", says = DAY_PASSES)
    private static void roomForAPartOfALaterCow() {
        MilkRound dairy = new MilkRound();
        dairy.addFarm(30);
        dairy.addCow(0, 20);
        dairy.addCow(0, 20);
        Check.due("pass(1), room for 14 of the second cow's 16", 2, dairy.pass(1));
        Check.due("inTank(0), full", 30, dairy.inTank(0));
        MilkRound exact = new MilkRound();
        exact.addFarm(32);
        exact.addCow(0, 20);
        exact.addCow(0, 20);
        Check.due("pass(1), just room", 0, exact.pass(1));
        Check.due("inTank(0), just full", 32, exact.inTank(0));
    }

    @Sentence(of = "Farms", says = DAY_PASSES)
    private static void noFarmGivesItsMilkToAnother() {
        MilkRound dairy = new MilkRound();
        dairy.addFarm(10);
        dairy.addFarm(200);
        dairy.addCow(0, 20);
        dairy.addCow(1, 10);
        Check.due("pass(1)", 6, dairy.pass(1));
        Check.due("inTank(0), full", 10, dairy.inTank(0));
        Check.due("inTank(1), with room", 6, dairy.inTank(1));
    }

    // ---- rounds

    @Sentence(of = "Rounds", says = "A round has a tanker, which holds at most 400 litres.")
    private static void fourHundredLitres() {
        MilkRound dairy = Dairies.withFullTanks(200, 199, 100, 10);
        dairy.addVat(900);
        dairy.beginRound();
        dairy.visit(0);
        dairy.visit(1);
        Check.due("inTanker(), room for 1", 399, dairy.inTanker());
        Check.due("visit(2), room for 1", 1, dairy.visit(2));
        Check.due("inTanker(), full", 400, dairy.inTanker());
        Check.due("visit(3), no room", 0, dairy.visit(3));
        Check.due("endRound(0)", 400, dairy.endRound(0));
        dairy.pass(30);
        dairy.beginRound();
        dairy.visit(0);
        dairy.visit(1);
        Check.due("visit(2) of the next round, room for 1", 1, dairy.visit(2));
    }

    @Sentence(of = "Rounds", says = "A round has a tanker, which holds at most 400 litres.")
    private static void justFourHundredLitres() {
        MilkRound dairy = Dairies.withFullTanks(150, 150, 100);
        dairy.beginRound();
        dairy.visit(0);
        dairy.visit(1);
        Check.due("visit(2), just room", 100, dairy.visit(2));
        Check.due("inTank(2), all of it taken", 0, dairy.inTank(2));
    }

    private static final String VISITS = "It visits farms one after the other; at each one, the tanker takes as much "
            + "as is in the tank and as there is room for, and a sample of it.";

    @Sentence(of = "Rounds", says = VISITS)
    private static void asMuchAsIsInTheTank() {
        MilkRound dairy = Dairies.withFullTanks(60, 50, 40);
        dairy.beginRound();
        Check.due("visit(2)", 40, dairy.visit(2));
        Check.due("visit(0)", 60, dairy.visit(0));
        Check.due("inTank(2)", 0, dairy.inTank(2));
        Check.due("inTank(0)", 0, dairy.inTank(0));
        Check.due("inTank(1), not visited", 50, dairy.inTank(1));
        Check.due("litres(0)", 40, dairy.litres(0));
        Check.due("farmOf(0)", 2, dairy.farmOf(0));
        Check.due("litres(1)", 60, dairy.litres(1));
        Check.due("farmOf(1)", 0, dairy.farmOf(1));
    }

    @Sentence(of = "Rounds", says = VISITS)
    private static void asMuchAsThereIsRoomFor() {
        MilkRound dairy = Dairies.withFullTanks(150, 150, 150);
        dairy.beginRound();
        dairy.visit(0);
        dairy.visit(1);
        Check.due("visit(2), room for 100 of 150", 100, dairy.visit(2));
        Check.due("inTank(2), what is left", 50, dairy.inTank(2));
        Check.due("litres(2), what was taken", 100, dairy.litres(2));
    }

    private static final String AT_MOST_ONCE =
            "At most 1 round is under way, and a farm is visited at most once in a round.";

    @Sentence(of = "Rounds", says = AT_MOST_ONCE)
    private static void atMostOneRound() {
        MilkRound dairy = Dairies.withFarms(1);
        dairy.addVat(100);
        dairy.beginRound();
        Check.badState(dairy, "beginRound() in a round", dairy::beginRound);
        dairy.endRound(0);
        Check.due("beginRound() after it", 2, dairy.beginRound());
        Check.badState(dairy, "beginRound() in the next round", dairy::beginRound);
    }

    @Sentence(of = "Rounds", says = AT_MOST_ONCE)
    private static void atMostOneVisitOfAFarm() {
        MilkRound dairy = Dairies.withFarms(6);
        dairy.addVat(900);
        dairy.beginRound();
        for (int farm = 0; farm < 6; farm++) {
            dairy.visit(farm);
        }
        dairy.pass(1);
        for (int farm = 0; farm < 6; farm++) {
            int again = farm;
            Check.badState(dairy, "visit(" + farm + ") again", () -> dairy.visit(again));
        }
        dairy.endRound(0);
        dairy.beginRound();
        for (int farm = 0; farm < 6; farm++) {
            Check.due("visit(" + farm + ") in the next round", 5, dairy.visit(farm));
        }
    }

    @Sentence(of = "Rounds", says = AT_MOST_ONCE)
    private static void visitOfNothingIsAVisit() {
        MilkRound dairy = new MilkRound();
        dairy.addFarm(100);
        dairy.addCow(0, 20);
        dairy.beginRound();
        Check.due("visit(0), nothing in it", 0, dairy.visit(0));
        dairy.pass(1);
        Check.badState(dairy, "visit(0) again, with milk in it", () -> dairy.visit(0));
    }

    @Sentence(of = "Rounds", says = "When it ends, the milk is pumped into a vat, all of it.")
    private static void allMilkIsPumped() {
        MilkRound dairy = Dairies.withFullTanks(200, 200);
        dairy.addVat(400);
        dairy.addVat(399);
        dairy.beginRound();
        dairy.visit(0);
        dairy.visit(1);
        Check.unsupported(dairy, "endRound(1), no room for the last litre", () -> dairy.endRound(1));
        Check.due("inVat(1), no part of it", 0, dairy.inVat(1));
        Check.due("endRound(0)", 400, dairy.endRound(0));
        Check.due("inVat(0)", 400, dairy.inVat(0));
        Check.due("inTanker()", 0, dairy.inTanker());
        Check.due("wayOf(0)", 'v', dairy.wayOf(0));
        Check.due("wayOf(1)", 'v', dairy.wayOf(1));
    }

    // ---- vats

    @Sentence(of = "Vats", says = "At most 4 vats are numbered from 0.")
    private static void fourVats() {
        MilkRound dairy = new MilkRound();
        for (int vat = 0; vat < 4; vat++) {
            Check.due("addVat(100)", vat, dairy.addVat(100));
            Check.due("inVat(" + vat + ")", 0, dairy.inVat(vat));
        }
        Check.badState(dairy, "addVat(100), a fifth", () -> dairy.addVat(100));
        Check.noIndex(dairy, "inVat(4)", () -> dairy.inVat(4));
        Check.noIndex(dairy, "inVat(-1)", () -> dairy.inVat(-1));
    }

    private static final String VAT = "A vat holds at most a number of litres; it is open, as at first, or closed.";

    @Sentence(of = "Vats", says = VAT)
    private static void vatHoldsAtMost() {
        MilkRound dairy = Dairies.withFullTanks(120, 80, 10);
        dairy.addVat(200);
        Dairies.round(dairy, 0, 0);
        Check.due("endRound(0), just full", 200, Dairies.round(dairy, 0, 1));
        dairy.beginRound();
        dairy.visit(2);
        Check.unsupported(dairy, "endRound(0), which is full", () -> dairy.endRound(0));
        Check.due("inVat(0)", 200, dairy.inVat(0));
    }

    @Sentence(of = "Vats", says = VAT)
    private static void vatIsOpenAtFirst() {
        MilkRound dairy = Dairies.withFarms(1);
        dairy.addVat(100);
        Check.due("batches()", 0, dairy.batches());
        Check.due("endRound(0), open", 5, Dairies.round(dairy, 0, 0));
    }

    private static final String VAT_KEEPS = "An open vat keeps the milk of all rounds that were pumped into it, told "
            + "by farms and rounds: each visit of a round that was pumped into it is a share of it, if it took more "
            + "than 0 litres.";

    @Sentence(of = "Vats", says = VAT_KEEPS)
    private static void eachVisitIsAShare() {
        MilkRound dairy = Dairies.withFullTanks(60, 50);
        dairy.addVat(400);
        dairy.addVat(400);
        Dairies.collect(dairy, 2, 0);
        dairy.pass(30);
        Dairies.round(dairy, 1, 0);
        dairy.pass(30);
        Dairies.collect(dairy, 2, 0);
        Check.due("inVat(0)", 220, dairy.inVat(0));
        dairy.close(0);
        int[] samples = {0, 1, 3, 4};
        for (int index = 0; index < 4; index++) {
            Check.due("share(0, " + index + ")", samples[index], dairy.share(0, index));
        }
        Check.noElement(dairy, "share(0, 4)", () -> dairy.share(0, 4));
        Check.due("inVat(1)", 60, dairy.inVat(1));
    }

    @Sentence(of = "Vats", says = VAT_KEEPS)
    private static void visitOfNothingIsNoShare() {
        MilkRound dairy = Dairies.withFullTanks(200, 199, 10, 60);
        dairy.addFarm(100);
        dairy.addVat(900);
        Dairies.round(dairy, 0, 4, 0, 1, 2, 3);
        dairy.close(0);
        Check.due("share(0, 0), after a visit of an empty tank", 0, dairy.share(0, 0));
        Check.due("farmOf(0)", 0, dairy.farmOf(0));
        Check.due("share(0, 2), of 1 litre", 2, dairy.share(0, 2));
        Check.due("litres(2)", 1, dairy.litres(2));
        Check.noElement(dairy, "share(0, 3), of a full tanker", () -> dairy.share(0, 3));
    }

    @Sentence(of = "Vats", says = VAT_KEEPS)
    private static void visitsOfNothingAreNotAmongSixtyShares() {
        MilkRound dairy = Dairies.withSixtyShares();
        Dairies.collect(dairy, 6, 1);
        Check.due("endRound(0) of 6 visits of nothing", 300, Dairies.collect(dairy, 6, 0));
        dairy.close(0);
        Check.due("share(0, 59)", 59, dairy.share(0, 59));
        Check.noElement(dairy, "share(0, 60)", () -> dairy.share(0, 60));
    }

    private static final String CLOSED =
            "When a vat is closed, it becomes a batch, and the vat is open again and empty.";

    @Sentence(of = "Vats", says = CLOSED)
    private static void closedVatIsOpenAgain() {
        MilkRound dairy = Dairies.withFullTanks(100, 100);
        dairy.addVat(100);
        Dairies.round(dairy, 0, 0);
        Check.due("close(0)", 0, dairy.close(0));
        Check.due("batches()", 1, dairy.batches());
        Check.due("share(0, 0)", 0, dairy.share(0, 0));
        Check.due("inVat(0)", 0, dairy.inVat(0));
        Check.due("bestVat()", 0, dairy.bestVat());
        Check.due("endRound(0), with all its room", 100, Dairies.round(dairy, 0, 1));
        Check.due("close(0) again", 1, dairy.close(0));
        Check.due("share(1, 0)", 1, dairy.share(1, 0));
        Check.noElement(dairy, "share(1, 1), of the batch before", () -> dairy.share(1, 1));
    }

    @Sentence(of = "Vats", says = CLOSED)
    private static void closedVatHasNoSharesAgain() {
        MilkRound dairy = Dairies.withSixtyShares();
        dairy.close(0);
        Check.due("endRound(0), 6 shares", 30, Dairies.collect(dairy, 6, 0));
    }

    // ---- batches

    @Sentence(of = "Batches", says = "At most 20 batches are numbered from 0.")
    private static void twentyBatches() {
        MilkRound dairy = Dairies.withFarms(1);
        for (int vat = 0; vat < 4; vat++) {
            dairy.addVat(100);
        }
        for (int batch = 0; batch < 20; batch++) {
            Dairies.round(dairy, batch % 4, 0);
            Check.due("close(" + batch % 4 + ")", batch, dairy.close(batch % 4));
            Check.due("stateOf(" + batch + ")", 'w', dairy.stateOf(batch));
            dairy.pass(1);
        }
        Dairies.round(dairy, 0, 0);
        Check.badState(dairy, "close(0), a 21st", () -> dairy.close(0));
        Check.noIndex(dairy, "stateOf(20)", () -> dairy.stateOf(20));
        Check.noIndex(dairy, "stateOf(-1)", () -> dairy.stateOf(-1));
    }

    private static final String SHARES = "A batch has the shares of its vat in the order in which they came; at most "
            + "60 shares are in a vat.";

    @Sentence(of = "Batches", says = SHARES)
    private static void sharesInTheOrderInWhichTheyCame() {
        MilkRound dairy = Dairies.withFullTanks(60, 50, 40, 30);
        dairy.addVat(400);
        dairy.addVat(400);
        Dairies.round(dairy, 0, 3, 1);
        Dairies.round(dairy, 1, 2);
        Dairies.round(dairy, 0, 0);
        dairy.close(0);
        int[] farms = {3, 1, 0};
        for (int index = 0; index < 3; index++) {
            int sample = dairy.share(0, index);
            Check.due("farmOf(share(0, " + index + "))", farms[index], dairy.farmOf(sample));
        }
    }

    @Sentence(of = "Batches", says = SHARES)
    private static void atMostSixtyShares() {
        MilkRound dairy = Dairies.withSixtyShares();
        dairy.beginRound();
        dairy.visit(0);
        Check.unsupported(dairy, "endRound(0), 61 shares", () -> dairy.endRound(0));
        dairy.endRound(1);
        dairy.close(0);
        Check.due("share(0, 59)", 59, dairy.share(0, 59));
        Check.noElement(dairy, "share(0, 60)", () -> dairy.share(0, 60));
    }

    @Sentence(of = "Batches", says = SHARES)
    private static void sixtySharesInEachVat() {
        MilkRound dairy = Dairies.withSixtyShares();
        for (int round = 0; round < 6; round++) {
            Check.due("endRound(1)", 30 * (round + 1), Dairies.collect(dairy, 6, 1));
            dairy.pass(1);
        }
        Check.due("samples()", 96, dairy.samples());
    }

    // ---- samples

    private static final String NUMBERS = "Each visit that took more than 0 litres has a sample; samples are numbered "
            + "from 0, over all rounds, and at most 100 are taken.";

    @Sentence(of = "Samples", says = NUMBERS)
    private static void visitOfNothingHasNoSample() {
        MilkRound dairy = Dairies.withFullTanks(200, 101, 100, 50);
        dairy.addFarm(100);
        dairy.addVat(900);
        dairy.beginRound();
        dairy.visit(4);
        Check.due("samples() after an empty tank", 0, dairy.samples());
        dairy.visit(0);
        dairy.visit(2);
        dairy.visit(1);
        Check.due("samples() after three visits", 3, dairy.samples());
        dairy.visit(3);
        Check.due("samples() after a visit with a full tanker", 3, dairy.samples());
        dairy.endRound(0);
        dairy.beginRound();
        dairy.visit(1);
        Check.due("samples() after a visit of 1 litre", 4, dairy.samples());
    }

    @Sentence(of = "Samples", says = NUMBERS)
    private static void numbersOverAllRounds() {
        MilkRound dairy = Dairies.withFarms(2);
        dairy.addVat(900);
        for (int round = 0; round < 10; round++) {
            dairy.beginRound();
            dairy.visit(1);
            Check.due("farmOf(" + 2 * round + ")", 1, dairy.farmOf(2 * round));
            dairy.visit(0);
            Check.due("farmOf(" + (2 * round + 1) + ")", 0, dairy.farmOf(2 * round + 1));
            dairy.endRound(0);
            dairy.close(0);
            dairy.pass(1);
        }
        Check.noIndex(dairy, "farmOf(20)", () -> dairy.farmOf(20));
        Check.noIndex(dairy, "farmOf(-1)", () -> dairy.farmOf(-1));
    }

    @Sentence(of = "Samples", says = NUMBERS)
    private static void atMostAHundredSamples() {
        MilkRound dairy = Dairies.withNinetySixSamples();
        dairy.beginRound();
        for (int farm = 0; farm < 4; farm++) {
            Check.due("visit(" + farm + ")", 5, dairy.visit(farm));
        }
        Check.due("farmOf(99)", 3, dairy.farmOf(99));
        Check.badState(dairy, "visit(4)", () -> dairy.visit(4));
        Check.due("samples()", 100, dairy.samples());
        Check.noIndex(dairy, "farmOf(100)", () -> dairy.farmOf(100));
    }

    private static final String GRADED = "A sample has no grade at first, and can be graded once, also when its round "
            + "is under way or its vat is open: 'a', 'b', 'c', or 'x' for spoilt.";

    @Sentence(of = "Samples", says = GRADED)
    private static void gradedOnceWhereverItIs() {
        MilkRound dairy = Dairies.withFullTanks(60, 50, 40, 30);
        dairy.addVat(400);
        Dairies.round(dairy, 0, 0, 3);
        dairy.close(0);
        Dairies.round(dairy, 0, 1);
        dairy.beginRound();
        dairy.visit(2);
        char[] grades = {'a', 'b', 'c', 'x'};
        for (int number = 0; number < 4; number++) {
            int sample = number;
            char grade = grades[sample];
            Check.due("gradeOf(" + sample + ") at first", '-', dairy.gradeOf(sample));
            Check.due("grade(" + sample + ", '" + grade + "')", 3 - sample, dairy.grade(sample, grade));
            Check.due("gradeOf(" + sample + ")", grade, dairy.gradeOf(sample));
            Check.badState(dairy, "grade(" + sample + ", 'a') again", () -> dairy.grade(sample, 'a'));
            Check.badState(dairy, "grade(" + sample + ", 'x') again", () -> dairy.grade(sample, 'x'));
        }
    }

    @Sentence(of = "Samples", says = GRADED)
    private static void sampleKeepsItsGradeOnItsWay() {
        MilkRound dairy = Dairies.withFullTanks(60);
        dairy.addVat(400);
        dairy.beginRound();
        dairy.visit(0);
        dairy.grade(0, 'c');
        dairy.endRound(0);
        Check.due("gradeOf(0) in the vat", 'c', dairy.gradeOf(0));
        dairy.close(0);
        Check.due("gradeOf(0) in the batch", 'c', dairy.gradeOf(0));
        Check.due("stateOf(0)", 'g', dairy.stateOf(0));
    }

    @Sentence(of = "Samples", says = "A batch is graded when all of its samples are.")
    private static void gradedWithTheLastSample() {
        for (int last = 0; last < 4; last++) {
            MilkRound dairy = Dairies.withBatch(60, 50, 40, 30);
            Dairies.nextBatch(dairy, 4);
            for (int i = 1; i < 4; i++) {
                dairy.grade((last + i) % 4, 'a');
                Check.due("stateOf(0) after " + i, 'w', dairy.stateOf(0));
            }
            dairy.grade(last, 'b');
            Check.due("stateOf(0) after all", 'g', dairy.stateOf(0));
            Check.due("stateOf(1) without grades", 'w', dairy.stateOf(1));
        }
    }

    // ---- money

    @Sentence(of = "Money", says = "A litre is worth 40 cents with the grade 'a', 34 with 'b', and 25 with 'c'.")
    private static void worthOfALitre() {
        int[] cents = {40, 34, 25};
        for (int i = 0; i < 3; i++) {
            MilkRound dairy = Dairies.withFullTanks(200, 101, 100);
            dairy.addVat(900);
            dairy.addVat(100);
            Dairies.round(dairy, 0, 0, 2, 1);
            Dairies.round(dairy, 1, 1);
            dairy.close(1);
            dairy.grade(3, "abc".charAt(i));
            Check.due("worth(0) of 1 litre with " + "abc".charAt(i), cents[i], dairy.worth(0));
        }
    }

    private static final String SPOILT = "A batch is spoilt if one of its samples has the grade 'x'.";

    @Sentence(of = "Money", says = SPOILT)
    private static void spoiltByOneOfSixty() {
        for (int spoilt : new int[] {0, 1, 30, 58, 59}) {
            MilkRound dairy = Dairies.withSixtyShares();
            dairy.close(0);
            for (int sample = 0; sample < 60; sample++) {
                dairy.grade(sample, sample == spoilt ? 'x' : 'a');
            }
            Check.due("stateOf(0), spoilt by " + spoilt, 'x', dairy.stateOf(0));
            Check.due("worth(0)", 0, dairy.worth(0));
            Check.due("loss(0)", 59 * 5 * 40, dairy.loss(0));
        }
    }

    @Sentence(of = "Money", says = SPOILT)
    private static void spoiltBySeveral() {
        MilkRound dairy = Dairies.withBatch(60, 50, 40);
        Dairies.grade(dairy, 0, "xax");
        Check.due("stateOf(0), two spoilt", 'x', dairy.stateOf(0));
        MilkRound only = Dairies.withBatch(60, 50, 40);
        Dairies.grade(only, 0, "xxx");
        Check.due("stateOf(0), all spoilt", 'x', only.stateOf(0));
    }

    @Sentence(of = "Money", says = SPOILT)
    private static void notSpoiltByAnothersSample() {
        MilkRound dairy = Dairies.withBatch(60, 50);
        Dairies.grade(dairy, 0, "aa");
        Dairies.nextBatch(dairy, 2);
        dairy.grade(2, 'x');
        dairy.pass(30);
        Dairies.round(dairy, 0, 0);
        dairy.grade(4, 'x');
        dairy.beginRound();
        dairy.visit(1);
        dairy.grade(5, 'x');
        Check.due("stateOf(0), beside a batch, a vat and a tanker that are", 'g', dairy.stateOf(0));
        Check.due("worth(0)", 110 * 40, dairy.worth(0));
        Check.due("loss(0)", 0, dairy.loss(0));
    }

    @Sentence(of = "Money", says = "When it is not, the pay of a sample in it is its litres times what a litre with "
            + "its grade is worth.")
    private static void payOfSamples() {
        MilkRound dairy = Dairies.withBatch(61, 53, 47);
        Dairies.grade(dairy, 0, "cab");
        Check.due("pay(0)", 61L * 25, dairy.pay(0));
        Check.due("pay(1)", 53L * 40, dairy.pay(1));
        Check.due("pay(2)", 47L * 34, dairy.pay(2));
        Check.due("blame(0)", 0L, dairy.blame(0));
        Check.due("worth(0)", 61 * 25 + 53 * 40 + 47 * 34, dairy.worth(0));
        Check.due("loss(0)", 0, dairy.loss(0));
    }

    private static final String SPOILT_BATCH = "When it is, the pay of all its samples is 0; its loss is the sum of "
            + "what its other samples would have been paid without that; and this loss is blamed on its spoilt samples, "
            + "by their litres: each one's blame is the loss times its litres, divided by the litres of all its spoilt "
            + "samples, rounded down, and what is left is blamed, 1 cent each, on those of them in the order of the "
            + "batch.";

    @Sentence(of = "Money", says = SPOILT_BATCH)
    private static void spoiltBatchPaysNothing() {
        MilkRound dairy = Dairies.withBatch(60, 50, 40, 30);
        Dairies.grade(dairy, 0, "abxc");
        for (int farm = 0; farm < 4; farm++) {
            Check.due("pay(" + farm + ")", 0L, dairy.pay(farm));
        }
        Check.due("worth(0)", 0, dairy.worth(0));
    }

    @Sentence(of = "Money", says = SPOILT_BATCH)
    private static void lossOfTheOtherSamples() {
        MilkRound dairy = Dairies.withBatch(60, 50, 40, 30);
        Dairies.grade(dairy, 0, "abxc");
        Check.due("loss(0)", 60 * 40 + 50 * 34 + 30 * 25, dairy.loss(0));
        Check.due("blame(2), of all of it", (long) (60 * 40 + 50 * 34 + 30 * 25), dairy.blame(2));
        Check.due("blame(0)", 0L, dairy.blame(0));
    }

    @Sentence(of = "Money", says = SPOILT_BATCH)
    private static void blameByLitresWithNothingLeft() {
        MilkRound dairy = Dairies.withBatch(10, 30, 60, 20);
        Dairies.grade(dairy, 0, "xxxa");
        Check.due("blame(0), 10 of 100", 80L, dairy.blame(0));
        Check.due("blame(1), 30 of 100", 240L, dairy.blame(1));
        Check.due("blame(2), 60 of 100", 480L, dairy.blame(2));
        Check.due("blame(3)", 0L, dairy.blame(3));
    }

    /** 1250 cents are lost: 416 and two thirds on each. */
    @Sentence(of = "Money", says = SPOILT_BATCH)
    private static void twoCentsLeft() {
        MilkRound dairy = Dairies.withBatch(20, 50, 20, 20);
        Dairies.grade(dairy, 0, "xcxx");
        Check.due("blame(0), first", 417L, dairy.blame(0));
        Check.due("blame(2), second", 417L, dairy.blame(2));
        Check.due("blame(3), last", 416L, dairy.blame(3));
        Check.due("blame(1), not spoilt", 0L, dairy.blame(1));
    }

    /** The order of the batch is that of the visits, neither that of the farms nor that of the grades. */
    @Sentence(of = "Money", says = SPOILT_BATCH)
    private static void centsLeftInTheOrderOfTheBatch() {
        MilkRound dairy = Dairies.withFullTanks(20, 50, 20, 20);
        dairy.addVat(400);
        Dairies.round(dairy, 0, 3);
        Dairies.round(dairy, 0, 2, 1, 0);
        dairy.close(0);
        dairy.grade(3, 'x');
        dairy.grade(2, 'c');
        dairy.grade(1, 'x');
        dairy.grade(0, 'x');
        Check.due("blame(3), first in the batch", 417L, dairy.blame(3));
        Check.due("blame(2), second", 417L, dairy.blame(2));
        Check.due("blame(0), last", 416L, dairy.blame(0));
    }

    /** 625 cents are lost: 208 and a third on the first, 416 and two thirds on the second. */
    @Sentence(of = "Money", says = SPOILT_BATCH)
    private static void centLeftOnTheFirstWhateverTheFractions() {
        MilkRound dairy = Dairies.withBatch(10, 20, 25);
        Dairies.grade(dairy, 0, "xxc");
        Check.due("blame(0)", 209L, dairy.blame(0));
        Check.due("blame(1)", 416L, dairy.blame(1));
    }

    @Sentence(of = "Money", says = SPOILT_BATCH)
    private static void nothingLost() {
        MilkRound dairy = Dairies.withBatch(10, 20, 25);
        Dairies.grade(dairy, 0, "xxx");
        Check.due("loss(0)", 0, dairy.loss(0));
        for (int farm = 0; farm < 3; farm++) {
            Check.due("blame(" + farm + ")", 0L, dairy.blame(farm));
        }
    }

    /** At the last, 1000 cents are lost on 55 spoilt shares: 18 on each, and 1 more on the first 10. */
    @Sentence(of = "Money", says = SPOILT_BATCH)
    private static void blameInABatchOfSixtyShares() {
        MilkRound one = Dairies.withSixtyShares();
        one.close(0);
        Dairies.grade(one, 0, "a".repeat(59) + "x");
        Check.due("blame(5), for 59 others", 59L * 5 * 40, one.blame(5));
        MilkRound many = Dairies.withSixtyShares();
        many.close(0);
        Dairies.grade(many, 0, "aaaaa" + "x".repeat(55));
        Check.due("loss(0)", 25 * 40, many.loss(0));
        Check.due("blame(5), of 10 shares, 2 of them among the first 10", 10 * 18L + 2, many.blame(5));
    }
}
