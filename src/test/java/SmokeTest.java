/** The first steps of README.md. */
public final class SmokeTest {
    public static void main(String[] args) {
        Steadygrowth x = new Steadygrowth();
        Due.is("putEighths(0, 12)", x.putEighths(0, 12), 1);
        Due.is("exp(0, 1)", x.exp(0, 1), 1);
        Due.is("digits(1, 45)", x.digits(1, 45), "100011110110100111111111001100100111111000101 2");
        Due.is("growth(1, 64, false)", x.growth(1, 64, false), -1);
        Due.finish();
    }
}
