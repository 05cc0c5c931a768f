/** Everything that a dairy lets one see, as a text; none of these calls may change it. */
final class Looks {
    private Looks() {
    }

    static String at(MilkRound dairy) {
        StringBuilder seen = new StringBuilder();
        seen.append("day ").append(dairy.day()).append(" tanker ").append(dairy.inTanker());
        seen.append(" best ").append(Check.outcome(dairy::bestVat));
        seen.append(" spoilt ").append(Check.outcome(dairy::spoiltShare));
        seen.append(" mean ").append(Check.outcome(dairy::meanPay));
        farms(dairy, seen);
        vats(dairy, seen);
        samples(dairy, seen);
        batches(dairy, seen);
        return seen.toString();
    }

    private static void farms(MilkRound dairy, StringBuilder seen) {
        for (int number = -1; number <= 6; number++) {
            int farm = number;
            seen.append("\nfarm ").append(farm);
            put(seen, Check.outcome(() -> dairy.inTank(farm)));
            put(seen, Check.outcome(() -> dairy.milkOf(farm, 0)));
            put(seen, Check.outcome(() -> dairy.milkOf(farm, 5)));
            put(seen, Check.outcome(() -> dairy.pay(farm)));
            put(seen, Check.outcome(() -> dairy.blame(farm)));
            put(seen, Check.outcome(() -> dairy.balanceBySamples(farm)));
        }
    }

    private static void vats(MilkRound dairy, StringBuilder seen) {
        for (int number = -1; number <= 4; number++) {
            int vat = number;
            seen.append("\nvat ").append(vat);
            put(seen, Check.outcome(() -> dairy.inVat(vat)));
        }
    }

    private static void samples(MilkRound dairy, StringBuilder seen) {
        seen.append("\nsamples ").append(dairy.samples());
        for (int number = -1; number <= dairy.samples(); number++) {
            int sample = number;
            seen.append("\nsample ").append(sample);
            put(seen, Check.outcome(() -> dairy.farmOf(sample)));
            put(seen, Check.outcome(() -> dairy.litres(sample)));
            put(seen, Check.outcome(() -> dairy.gradeOf(sample)));
            put(seen, Check.outcome(() -> dairy.wayOf(sample)));
        }
    }

    private static void batches(MilkRound dairy, StringBuilder seen) {
        seen.append("\nbatches ").append(dairy.batches());
        for (int number = -1; number <= dairy.batches(); number++) {
            int batch = number;
            seen.append("\nbatch ").append(batch);
            put(seen, Check.outcome(() -> dairy.stateOf(batch)));
            put(seen, Check.outcome(() -> dairy.worth(batch)));
            put(seen, Check.outcome(() -> dairy.loss(batch)));
            for (int place = -1; place <= 60; place++) {
                int index = place;
                put(seen, Check.outcome(() -> dairy.share(batch, index)));
            }
        }
    }

    private static void put(StringBuilder seen, String outcome) {
        seen.append(' ').append(outcome);
    }
}
