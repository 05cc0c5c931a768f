/** Promises 24 to 31. */
public final class MoneyTest {
    private static final Class<IndexOutOfBoundsException> NO_INDEX = IndexOutOfBoundsException.class;
    private static final int[] NO_FARMS = {-1, 4, 6, Integer.MIN_VALUE, Integer.MAX_VALUE};

    public static void main(String[] args) {
        worth();
        loss();
        pay();
        payOfABatchGradedBefore();
        blame();
        blameWithCentsLeft();
        blameOfOnlySpoiltMilk();
        blameOnlyWhenAllGradesAreThere();
        balanceBySamples();
        wayOf();
        spoiltShare();
        meanPay();
        Check.end();
    }

    /** A batch of the samples 0 to 3, of the farms 0 to 3, with 30, 50, 70 and 20 litres. */
    private static MilkRound withBatch() {
        MilkRound dairy = Dairies.withFullTanks(30, 50, 70, 20);
        dairy.addVat(400);
        Dairies.collect(dairy, 4, 0);
        dairy.close(0);
        return dairy;
    }

    private static void gradeAll(MilkRound dairy, String grades) {
        int first = dairy.samples() - grades.length();
        for (int i = 0; i < grades.length(); i++) {
            dairy.grade(first + i, grades.charAt(i));
        }
    }

    /** A second batch, with the samples 4 to 7 and the same litres. */
    private static void secondBatch(MilkRound dairy) {
        dairy.pass(30);
        Dairies.collect(dairy, 4, 0);
        dairy.close(0);
    }

    private static void worth() {
        MilkRound dairy = withBatch();
        for (int batch : new int[] {-1, 1, 20, Integer.MIN_VALUE, Integer.MAX_VALUE}) {
            Check.refused(dairy, "24 worth(" + batch + ")", NO_INDEX, () -> dairy.worth(batch));
        }
        dairy.grade(0, 'a');
        dairy.grade(1, 'b');
        dairy.grade(3, 'c');
        Check.refused(dairy, "24 worth(0), a grade missing", UnsupportedOperationException.class,
                () -> dairy.worth(0));
        dairy.grade(2, 'a');
        Check.due("24 worth(0)", 30 * 40 + 50 * 34 + 70 * 40 + 20 * 25, dairy.worth(0));
        secondBatch(dairy);
        dairy.grade(4, 'x');
        Check.refused(dairy, "24 worth(1), spoilt, grades missing", UnsupportedOperationException.class,
                () -> dairy.worth(1));
        dairy.grade(5, 'a');
        dairy.grade(6, 'a');
        dairy.grade(7, 'a');
        Check.due("24 worth(1), spoilt", 0, dairy.worth(1));
        Check.due("24 worth(0) beside it", 30 * 40 + 50 * 34 + 70 * 40 + 20 * 25, dairy.worth(0));
    }

    private static void loss() {
        MilkRound dairy = withBatch();
        for (int batch : new int[] {-1, 1, 20, Integer.MIN_VALUE, Integer.MAX_VALUE}) {
            Check.refused(dairy, "25 loss(" + batch + ")", NO_INDEX, () -> dairy.loss(batch));
        }
        Check.refused(dairy, "25 loss(0), no grades", UnsupportedOperationException.class, () -> dairy.loss(0));
        dairy.grade(2, 'x');
        dairy.grade(0, 'b');
        dairy.grade(1, 'c');
        Check.refused(dairy, "25 loss(0), a grade missing", UnsupportedOperationException.class, () -> dairy.loss(0));
        dairy.grade(3, 'a');
        Check.due("25 loss(0)", 30 * 34 + 50 * 25 + 20 * 40, dairy.loss(0));
        secondBatch(dairy);
        gradeAll(dairy, "abca");
        Check.due("25 loss(1), not spoilt", 0, dairy.loss(1));
        secondBatch(dairy);
        gradeAll(dairy, "xxxx");
        Check.due("25 loss(2), all of it spoilt", 0, dairy.loss(2));
    }

    private static void pay() {
        MilkRound dairy = withBatch();
        for (int farm : NO_FARMS) {
            Check.refused(dairy, "26 pay(" + farm + ")", NO_INDEX, () -> dairy.pay(farm));
        }
        Check.due("26 pay(0) without grades", 0L, dairy.pay(0));
        dairy.grade(0, 'a');
        dairy.grade(1, 'b');
        dairy.grade(2, 'c');
        Check.due("26 pay(0), a grade missing", 0L, dairy.pay(0));
        dairy.grade(3, 'c');
        Check.due("26 pay(0)", 30L * 40, dairy.pay(0));
        Check.due("26 pay(1)", 50L * 34, dairy.pay(1));
        Check.due("26 pay(2)", 70L * 25, dairy.pay(2));
        secondBatch(dairy);
        gradeAll(dairy, "baaa");
        Check.due("26 pay(0) of two batches", 30L * 40 + 30 * 34, dairy.pay(0));
        Check.due("26 pay(3) of two batches", 20L * 25 + 20 * 40, dairy.pay(3));
        secondBatch(dairy);
        gradeAll(dairy, "aaxa");
        Check.due("26 pay(0) beside a spoilt batch", 30L * 40 + 30 * 34, dairy.pay(0));
    }

    private static void payOfABatchGradedBefore() {
        MilkRound dairy = Dairies.withFullTanks(30, 50, 70, 20);
        dairy.addVat(400);
        dairy.beginRound();
        dairy.visit(0);
        dairy.visit(1);
        gradeAll(dairy, "ab");
        dairy.endRound(0);
        Check.due("26 pay(0), the vat is open", 0L, dairy.pay(0));
        dairy.pass(30);
        Dairies.collect(dairy, 1, 0);
        dairy.grade(2, 'c');
        dairy.close(0);
        Check.due("26 pay(0), graded before the close", 30L * 40 + 30 * 25, dairy.pay(0));
        Check.due("26 pay(1), graded before the close", 50L * 34, dairy.pay(1));
    }

    private static void blame() {
        MilkRound dairy = withBatch();
        for (int farm : NO_FARMS) {
            Check.refused(dairy, "27 blame(" + farm + ")", NO_INDEX, () -> dairy.blame(farm));
        }
        gradeAll(dairy, "abxc");
        int lost = 30 * 40 + 50 * 34 + 20 * 25;
        Check.due("27 blame(2), alone", (long) lost, dairy.blame(2));
        Check.due("27 blame(0)", 0L, dairy.blame(0));
        Check.due("27 pay(0)", 0L, dairy.pay(0));
        secondBatch(dairy);
        gradeAll(dairy, "abca");
        Check.due("27 blame(2) beside a batch that is not spoilt", (long) lost, dairy.blame(2));
        secondBatch(dairy);
        gradeAll(dairy, "axxa");
        int second = 30 * 40 + 20 * 40;
        Check.due("27 blame(1)", (long) (second * 50 / 120 + 1), dairy.blame(1));
        Check.due("27 blame(2) of two batches", (long) (lost + second * 70 / 120), dairy.blame(2));
    }

    /** 50 litres with 'c' are lost, 1250 cents, on 3 spoilt samples of 20, 20 and 20 litres: 2 cents are left. */
    private static void blameWithCentsLeft() {
        MilkRound dairy = Dairies.withFullTanks(20, 50, 20, 20);
        dairy.addVat(400);
        dairy.beginRound();
        for (int farm = 3; farm >= 0; farm--) {
            dairy.visit(farm);
        }
        dairy.endRound(0);
        dairy.close(0);
        gradeAll(dairy, "xxcx");
        Check.due("27 blame(3), first in the batch", 417L, dairy.blame(3));
        Check.due("27 blame(2), second", 417L, dairy.blame(2));
        Check.due("27 blame(0), last", 416L, dairy.blame(0));
        Check.due("27 loss(0)", 1250, dairy.loss(0));
    }

    private static void blameOfOnlySpoiltMilk() {
        MilkRound dairy = withBatch();
        gradeAll(dairy, "xxxx");
        for (int farm = 0; farm < 4; farm++) {
            Check.due("27 blame(" + farm + "), nothing is lost", 0L, dairy.blame(farm));
        }
    }

    private static void blameOnlyWhenAllGradesAreThere() {
        MilkRound dairy = withBatch();
        dairy.grade(0, 'x');
        dairy.grade(1, 'a');
        dairy.grade(2, 'a');
        Check.due("27 blame(0), a grade missing", 0L, dairy.blame(0));
        Check.due("27 balanceBySamples(0), a grade missing", 0L, dairy.balanceBySamples(0));
        dairy.grade(3, 'x');
        int lost = 120 * 40;
        Check.due("27 blame(0)", (long) (lost * 30 / 50), dairy.blame(0));
        Check.due("27 blame(3)", (long) (lost * 20 / 50), dairy.blame(3));
        dairy.pass(30);
        dairy.beginRound();
        dairy.visit(0);
        dairy.visit(1);
        gradeAll(dairy, "xa");
        dairy.endRound(0);
        Check.due("27 blame(0), the vat is open", (long) (lost * 30 / 50), dairy.blame(0));
        dairy.close(0);
        Check.due("27 blame(0), graded before the close", (long) (lost * 30 / 50 + 50 * 40), dairy.blame(0));
    }

    private static void balanceBySamples() {
        MilkRound dairy = withBatch();
        for (int farm : NO_FARMS) {
            Check.refused(dairy, "28 balanceBySamples(" + farm + ")", NO_INDEX, () -> dairy.balanceBySamples(farm));
        }
        Check.due("28 balanceBySamples(0) without grades", 0L, dairy.balanceBySamples(0));
        gradeAll(dairy, "aabc");
        Check.due("28 balanceBySamples(2)", 70L * 34, dairy.balanceBySamples(2));
        secondBatch(dairy);
        gradeAll(dairy, "abxa");
        long lost = 30 * 40 + 50 * 34 + 20 * 40;
        Check.due("28 balanceBySamples(2), blamed", 70L * 34 - lost, dairy.balanceBySamples(2));
        Check.due("28 balanceBySamples(0), not blamed", 30L * 40, dairy.balanceBySamples(0));
        secondBatch(dairy);
        gradeAll(dairy, "aaxa");
        long more = 100 * 40;
        Check.due("28 balanceBySamples(2), below 0", 70L * 34 - lost - more, dairy.balanceBySamples(2));
        for (int farm = 0; farm < 4; farm++) {
            Check.due("28 balanceBySamples(" + farm + ")", dairy.pay(farm) - dairy.blame(farm),
                    dairy.balanceBySamples(farm));
        }
    }

    private static void wayOf() {
        MilkRound dairy = Dairies.withFullTanks(30, 50);
        dairy.addVat(100);
        Check.refused(dairy, "29 wayOf(0)", NO_INDEX, () -> dairy.wayOf(0));
        dairy.beginRound();
        dairy.visit(0);
        Check.due("29 wayOf(0) in a round", 't', dairy.wayOf(0));
        dairy.endRound(0);
        Check.due("29 wayOf(0) after it", 'v', dairy.wayOf(0));
        dairy.beginRound();
        dairy.visit(1);
        Check.due("29 wayOf(0) in the next round", 'v', dairy.wayOf(0));
        Check.due("29 wayOf(1) in the next round", 't', dairy.wayOf(1));
        dairy.close(0);
        Check.due("29 wayOf(0) after the close", 'b', dairy.wayOf(0));
        dairy.endRound(0);
        Check.due("29 wayOf(0) beside a new vat", 'b', dairy.wayOf(0));
        Check.due("29 wayOf(1) in the new vat", 'v', dairy.wayOf(1));
        for (int sample : new int[] {-1, 2, 100, Integer.MIN_VALUE, Integer.MAX_VALUE}) {
            Check.refused(dairy, "29 wayOf(" + sample + ")", NO_INDEX, () -> dairy.wayOf(sample));
        }
    }

    private static void spoiltShare() {
        MilkRound empty = new MilkRound();
        Check.refused(empty, "30 spoiltShare() without samples", ArithmeticException.class, empty::spoiltShare);
        MilkRound dairy = Dairies.withFullTanks(30, 50, 70, 20);
        dairy.addVat(400);
        dairy.beginRound();
        Check.refused(dairy, "30 spoiltShare() before a visit", ArithmeticException.class, dairy::spoiltShare);
        dairy.visit(2);
        dairy.grade(0, 'x');
        Check.due("30 spoiltShare(), spoilt in the tanker", 0f, dairy.spoiltShare());
        dairy.visit(0);
        dairy.endRound(0);
        Check.due("30 spoiltShare(), spoilt in the vat", 0f, dairy.spoiltShare());
        dairy.close(0);
        Check.due("30 spoiltShare(), all of it", 1f, dairy.spoiltShare());
        dairy.beginRound();
        dairy.visit(1);
        Check.due("30 spoiltShare() with milk in the tanker", 100f / 150f, dairy.spoiltShare());
        dairy.endRound(0);
        dairy.close(0);
        dairy.grade(2, 'a');
        Check.due("30 spoiltShare() with a good batch", 100f / 150f, dairy.spoiltShare());
        dairy.beginRound();
        dairy.visit(3);
        Check.due("30 spoiltShare() of 170 litres", 100f / 170f, dairy.spoiltShare());
    }

    private static void meanPay() {
        MilkRound empty = new MilkRound();
        Check.refused(empty, "31 meanPay() without batches", ArithmeticException.class, empty::meanPay);
        MilkRound dairy = withBatch();
        Check.refused(dairy, "31 meanPay() without grades", ArithmeticException.class, dairy::meanPay);
        dairy.grade(0, 'x');
        dairy.grade(1, 'a');
        dairy.grade(2, 'a');
        Check.refused(dairy, "31 meanPay(), a grade missing", ArithmeticException.class, dairy::meanPay);
        dairy.grade(3, 'a');
        Check.due("31 meanPay(), all spoilt", 0d, dairy.meanPay());
        secondBatch(dairy);
        Check.due("31 meanPay() beside a batch without grades", 0d, dairy.meanPay());
        gradeAll(dairy, "abca");
        double cents = 30 * 40 + 50 * 34 + 70 * 25 + 20 * 40;
        Check.due("31 meanPay() of two batches", cents / 340d, dairy.meanPay());
        dairy.pass(30);
        dairy.beginRound();
        dairy.visit(0);
        dairy.grade(8, 'a');
        dairy.endRound(0);
        Check.due("31 meanPay() beside a vat", cents / 340d, dairy.meanPay());
        dairy.close(0);
        Check.due("31 meanPay() of three batches", (cents + 1200d) / 370d, dairy.meanPay());
    }
}
