/** The boundary cases of the forecasts: promises 38 to 41. */
final class ForecastBounds {
    private static final String NO_LODGER = "Throws `IndexOutOfBoundsException` if there is no such lodger";
    private static final String WRONG_DAYS = "Throws `IllegalArgumentException` if days is out of range";
    private static final String DAYS = "- `days`: 0 to 100";

    private ForecastBounds() {
    }

    static void run() {
        balanceAfter();
        distanceAfter();
        daysToEviction();
        whichPayment();
        leastAndGreatestPayment();
    }

    /**
     * A house in which b forgets at each dinner what the lesson taught, as a and c are in debt and just so
     * tolerated. The money ends on day 103, the lessons with it, and on day 105 b is evicted.
     */
    private static AccentHouse lateEviction(int days) {
        return Check.with("house 7 15;landlady 9 3 9 8 1;lodger a 0 15 3 6 2 6 3;lodger b 0 721 5 4 0 3 8"
                + ";lodger c 0 25 8 1 5 7 2;days " + days);
    }

    private static void changesNothing(Bounds.Call forecast) {
        AccentHouse house = new AccentHouse();
        house.save(0);
        String before = Check.everything(house);
        for (int lodger = 0; lodger < 4; lodger++) {
            forecast.on(house, lodger);
        }
        Check.equal("nothing changes", Check.everything(house), before);
        Check.equal("nor what is saved", house.restore(0) + " " + Check.state(house), "1 " + Check.state(new AccentHouse()));
    }

    private static void balanceAfter() {
        Document.says(38, "Forecasts the balance of a lodger.");
        AccentHouse house = new AccentHouse();
        changesNothing((any, lodger) -> any.balanceAfter(lodger, 100));
        for (int days = 1; days <= 100; days += 11) {
            Check.equal("after " + days, house.balanceAfter(0, days), 15 - 5 * days);
        }

        Document.says(38, DAYS);
        Check.equal("0", house.balanceAfter(3, 0), 30);
        Check.equal("1", house.balanceAfter(3, 1), 20);
        Check.equal("100", house.balanceAfter(1, 100), -502);

        Document.says(38, "Returns the balance after so many days, or the balance with which the lodger was evicted on the way.");
        Check.equal("the day before the eviction", house.balanceAfter(2, 5), -60);
        Check.equal("the day of the eviction", house.balanceAfter(2, 6), -70);
        Check.equal("the day after it", house.balanceAfter(2, 7), -70);
        Check.equal("long after it", house.balanceAfter(2, 100), -70);
        Check.equal("another one, evicted with it", house.balanceAfter(3, 100), -30);
        Check.equal("one who is not evicted", house.balanceAfter(1, 7), -37);
        AccentHouse late = lateEviction(5);
        Check.equal("evicted on the last of 100 days", late.balanceAfter(1, 100), 721 - 7 * 105);
        Check.equal("a day before", late.balanceAfter(1, 99), 721 - 7 * 104);

        Document.says(38, NO_LODGER);
        Bounds.lodgers((crowd, lodger) -> crowd.balanceAfter(lodger, 100));
        Check.outside("days are wrong too", () -> house.balanceAfter(4, 101));

        Document.says(38, WRONG_DAYS);
        Bounds.range(0, 100, (any, days) -> any.balanceAfter(0, days));
    }

    private static void distanceAfter() {
        Document.says(39, "Forecasts the distance of a lodger's accent and the landlady's accent.");
        changesNothing((any, lodger) -> any.distanceAfter(lodger, 100));
        AccentHouse learner = Check.with("house 0 0;landlady 0 0 0 0 0;lodger a 0 0 9 9 9 9 9");
        for (int days = 0; days <= 100; days++) {
            Check.equal("after " + days + " lessons", learner.distanceAfter(0, days), Math.max(0, 45 - days));
        }

        Document.says(39, DAYS);
        AccentHouse debtor = Check.with("house 1 0;landlady 0 0 0 0 0;lodger a 0 1 9 9 9 9 9");
        Check.equal("0", debtor.distanceAfter(0, 0), 45);
        Check.equal("1", debtor.distanceAfter(0, 1), 44);
        Check.equal("2, without a lesson", debtor.distanceAfter(0, 2), 44);
        Check.equal("100", learner.distanceAfter(0, 100), 0);

        Document.says(39, "Returns the distance after so many days; NONE if the lodger is evicted on the way.");
        Check.equal("the day before the eviction", debtor.distanceAfter(0, 6), 44);
        Check.equal("the day of the eviction", debtor.distanceAfter(0, 7), AccentHouse.NONE);
        Check.equal("long after it", debtor.distanceAfter(0, 100), AccentHouse.NONE);
        AccentHouse late = lateEviction(5);
        Check.equal("a day before the last of 100", late.distanceAfter(1, 99), 15);
        Check.equal("evicted on the last of 100 days", late.distanceAfter(1, 100), AccentHouse.NONE);
        Check.equal("evicted a day later", lateEviction(4).distanceAfter(1, 100), 15);

        Document.says(39, NO_LODGER);
        Bounds.lodgers((crowd, lodger) -> crowd.distanceAfter(lodger, 100));
        Check.outside("days are wrong too", () -> debtor.distanceAfter(1, -1));

        Document.says(39, WRONG_DAYS);
        Bounds.range(0, 100, (any, days) -> any.distanceAfter(0, days));
    }

    private static void daysToEviction() {
        Document.says(40, "Forecasts the eviction of a lodger.");
        changesNothing(AccentHouse::daysToEviction);
        for (int day = 0; day < 14; day++) {
            AccentHouse house = Check.with("house 5 0;landlady 0 0 0 0 0");
            if (day > 0) {
                house.advance(day);
            }
            house.moveIn(0, 0, 99999);
            int due = 7 - day % 7;
            Check.equal("on day " + day, house.daysToEviction(0), due);
            Check.equal("a day earlier all stay", due == 1 ? 0 : house.advance(due - 1), 0);
            Check.equal("on that day it happens", house.advance(1), 1);
        }

        Document.says(40, "Returns the number of days after which the lodger is evicted; NONE if that does not happen within"
                + " 100 days.");
        AccentHouse in100 = lateEviction(5);
        Check.equal("after 100 days", in100.daysToEviction(1), 100);
        AccentHouse in101 = lateEviction(4);
        Check.equal("after 101 days", in101.daysToEviction(1), AccentHouse.NONE);
        in101.advance(1);
        Check.equal("after 100 days, a day later", in101.daysToEviction(1), 100);
        Check.equal("nobody is evicted on 99 of them", in101.advance(99), 0);
        Check.equal("1 day is left", in101.daysToEviction(1), 1);
        Check.equal("then it happens", in101.advance(1), 1);
        Check.equal("never", Bounds.crowd(1).daysToEviction(0), AccentHouse.NONE);

        Document.says(40, NO_LODGER);
        Bounds.lodgers(AccentHouse::daysToEviction);
    }

    private static void whichPayment() {
        Document.says(41, "Computes the smallest payment now that saves a lodger from eviction at the next inspection,"
                + " if only days pass until then.");
        changesNothing(AccentHouse::paymentToStay);
        // Two lessons leave a distance of 6, which is tolerated: two days' rent is enough.
        AccentHouse lessons = Check.withLines(";lodger a 0 0 4 4 4 8 8");
        Check.equal("what lessons save", lessons.paymentToStay(0), 10);
        lessons.pay(0, 9);
        Check.equal("1 less is too little", lessons.daysToEviction(0), 7);
        Check.equal("the rest", lessons.paymentToStay(0), 1);
        lessons.pay(0, 1);
        Check.equal("with it the lodger stays", lessons.distanceAfter(0, 7), 6);
        // No lesson helps: what is owed by then must be paid.
        AccentHouse debt = Check.withLines(";lodger a 1 0 9 9 9 9 9;days 3");
        Check.equal("what the debt is by then", debt.paymentToStay(0), 70);
        debt.pay(0, 69);
        Check.equal("1 less is too little", debt.daysToEviction(0), 4);
        debt.pay(0, 1);
        Check.equal("a balance of 0 is enough", debt.balanceAfter(0, 4) + " " + debt.mustGo(0), "0 false");
        // The next inspection alone counts.
        AccentHouse later = Check.withLines(";lodger a 0 35 9 9 9 9 9");
        Check.equal("evicted at the one after the next", later.daysToEviction(0), 14);
        Check.equal("nothing is to be paid for that", later.paymentToStay(0), 0);
        AccentHouse inspected = Check.withLines(";lodger a 0 35 9 9 9 9 9;days 7");
        Check.equal("on the day of an inspection the next is 7 days off", inspected.paymentToStay(0), 35);

        Document.says(41, NO_LODGER);
        Bounds.lodgers(AccentHouse::paymentToStay);
    }

    /** A lodger with such a balance on the eve of an inspection, to whom a rent of 50 and no lesson is due. */
    private static AccentHouse eve(int balance) {
        AccentHouse house = Check.with("house 0 0;landlady 0 0 0 0 0;days 5");
        house.setBaseRent(50);
        house.moveIn(0, 0, 99999);
        int toPay = balance;
        if (balance < 0) {
            // The debt comes from days of the rent of 50 until the eve of a later inspection.
            house.setTolerance(45);
            house.advance(22);
            house.setTolerance(0);
            toPay = balance + 22 * 50;
        }
        for (int left = toPay; left > 0; left -= 999) {
            house.pay(0, Math.min(left, 999));
        }
        if (balance >= 0) {
            house.pay(0, 50);
            house.advance(1);
        }
        Check.equal("the balance", house.balanceOf(0), balance);
        Check.equal("the days", house.daysToInspection(), 1);
        return house;
    }

    private static void leastAndGreatestPayment() {
        Document.says(41, "Returns 0 if no payment is needed; otherwise the smallest payment from 1 to 999 with which the lodger"
                + " stays; NONE if there is none.");
        Check.equal("a balance of just the rent", eve(50).paymentToStay(0), 0);
        Check.equal("1 less", eve(49).paymentToStay(0), 1);
        Check.equal("a balance of 0", eve(0).paymentToStay(0), 50);
        Check.equal("a debt", eve(-1).paymentToStay(0), 51);
        Check.equal("998", eve(-948).paymentToStay(0), 998);
        Check.equal("the greatest payment", eve(-949).paymentToStay(0), 999);
        Check.equal("1 more would be due", eve(-950).paymentToStay(0), AccentHouse.NONE);
        AccentHouse tolerated = eve(-950);
        tolerated.setTolerance(45);
        Check.equal("none is needed for a debt that is tolerated", tolerated.paymentToStay(0), 0);
        AccentHouse free = eve(-1);
        free.setBaseRent(0);
        Check.equal("without rent, a debt of 1", free.paymentToStay(0), 1);
    }
}
