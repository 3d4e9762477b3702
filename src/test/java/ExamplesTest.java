/** The examples that stand in the document's Terms. */
final class ExamplesTest {
    public static void main(String[] args) {
        SpinHall rod = new SpinHall();
        Check.due("addBody()", rod.addBody(), 0);
        Check.due("addMass(0, 1, 2, 0, 0)", rod.addMass(0, 1, 2, 0, 0), 0);
        Check.due("addMass(0, 1, -2, 0, 0)", rod.addMass(0, 1, -2, 0, 0), 1);
        Check.due("momentOf(0, 'z')", rod.momentOf(0, 'z'), 16);
        Check.due("kindOf(0)", rod.kindOf(0), 'r');

        SpinHall turned = new SpinHall();
        Check.due("addBody()", turned.addBody(), 0);
        Check.due("addMass(0, 1, 5, 0, 0)", turned.addMass(0, 1, 5, 0, 0), 0);
        Check.due("turn(0, 1, 0, 0, 1)", turned.turn(0, 1, 0, 0, 1), false);
        Check.due("placeOf(0, 0, 'y')", turned.placeOf(0, 0, 'y'), 5000);
        Check.due("timesBack(1, 0, 0, 1)", turned.timesBack(1, 0, 0, 1), 4);

        SpinHall top = new SpinHall();
        Check.due("addTop(200, 10, 1, 1, 5000)", top.addTop(200, 10, 1, 1, 5000), 0);
        Check.due("stateOf(0)", top.stateOf(0), 's');
        Check.due("run(6)", top.run(6), 1);
        Check.due("stateOf(0)", top.stateOf(0), 'n');
        Check.due("standing(0)", top.standing(0), 7);
        Check.end();
    }
}
