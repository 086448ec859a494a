/** A first look: that a new house is empty. */
public final class FirstTest {
    public static void main(String[] args) {
        Stepsdown x = new Stepsdown();
        boolean isRight = x.house(0) == 0 && x.root(0, 2, 1) == 0 && x.terms(0).equals("1 (2)");
        System.exit(isRight ? 0 : 1);
    }
}
