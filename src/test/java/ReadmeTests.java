/** What README.md shows answers what it says there. */
public final class ReadmeTests extends Checks {
    public static void main(String[] args) {
        Rollover house = new Rollover();
        int basic = house.plan(12, 600, 3);
        house.units(basic, 1, 60, 30, true);
        house.steps(basic, 120, 1, 50);
        int light = house.plan(0, 0, 2);
        house.pass(40);
        int mother = house.join(basic, 40);
        int son = house.join(light, 10);
        house.child(son, mother, 200);
        int first = house.call(mother, 3, 700, 5, 1, 500);
        int second = house.call(son, 2, 900, 6, 0, 400);
        due("call 0 on day 37: 510+0+0", () -> house.line(first));
        due("call 1 on day 38: 0+200+220", () -> house.line(second));
        due(490, () -> house.ofDay(mother, 40, 1));
        due(8, () -> house.ofCycle(son, 1, 0));
        due(-4, () -> house.correct(second, 300));
        due(800, () -> house.wouldCost(son, 720, 6, 0, 240));
        due(light, () -> house.best(son, 1, false));
        due(ARGUMENT, () -> house.call(son, 11, 900, 6, 0, 400));
        end();
    }
}
