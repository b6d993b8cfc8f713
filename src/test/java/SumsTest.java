/** Promises 61 to 64. */
final class SumsTest {
    public static void main(String[] args) {
        Hobhouse x = new Hobhouse();
        Check.is(0, () -> x.allDamage());
        Check.is(Check.NO_QUOTIENT, () -> x.cutShare());
        Check.is(Check.NO_QUOTIENT, () -> x.meanGrade());
        Check.is(true, () -> x.isSound());
        x.gear(24, 2000, 0, 20000);
        x.gear(36, 2000, 0, 20000);
        x.gear(31, 2000, 0, 20000);
        x.hob(2000, 1, 60000, 20);
        Check.is(0.0f, () -> x.cutShare());
        Check.is(0.0, () -> x.meanGrade());
        x.cut(0, 0, 99);
        Check.is(1.0f / 3.0f, () -> x.cutShare());
        x.cut(1, 0, 0);
        Check.is(2.0f / 3.0f, () -> x.cutShare());
        x.chart(0, 0, 9);
        x.chart(1, 0, 6);
        Check.is(8.0 / 3.0, () -> x.meanGrade());
        x.chart(2, 0, 2);
        x.chart(1, 0, 4);
        Check.is(7.0 / 3.0, () -> x.meanGrade());
        Check.is(2, () -> x.run(0, 1, 99999, 999999));
        Check.is(x.damage(0) + x.damage(1), () -> x.allDamage());
        Check.is(true, () -> x.allDamage() >= 2000000);
        Check.is(2.0f / 3.0f, () -> x.cutShare());
        x.cut(2, 0, 99);
        x.grind(2, 99, 1);
        Check.is('x', () -> x.stateOf(2));
        Check.is(1.0f, () -> x.cutShare());
        Check.is(true, () -> x.isSound());
        Check.is(7.0 / 3.0, () -> x.meanGrade());
        Check.end();
    }
}
