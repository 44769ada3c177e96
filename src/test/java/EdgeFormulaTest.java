/**
 * The boundary cases that FORMULAS and promises 34 and 35 name; see Due for what the lines mean. Of t(n), by which many
 * texts end, the FORMULA is 999999999004 + x1, so that t(996) comes to 10 to the 12th.
 */
public final class EdgeFormulaTest {
    private static final String T = "t(n){for i=1 to 1000{for j=1 to 999999996{}}for k=1 to n{}}`";

    public static void main(String[] arguments) {
        degrees();
        numbersOfStatements();
        numbersOfTerms();
        ups();
        noUps();
        turns();
        neverDone();
        calls();
        asked();
        worst();
        Due.end("EdgeFormulaTest");
    }

    private static void degrees() {
        Due.play("at most of degree 4 together", """
            bars `a(p){for i=1 to p{for j=1 to p{for k=1 to p{for l=1 to p{}}}}}b(p){^for i=1 to p{for j=1 to p{for k=1 to p{for l=1 to p{for m=1 to p{}}}}}}c(p){x=1;if(1){lock 1{try{x=1;}catch e{x=1;for z=1 to 2{^for i=1 to p{a(p);}}}}}}d(p){a(p);for i=1 to 7{a(p+7);}}` = 4
            bound(0, *, 0) = 2 3 3 3 1 -1
            bound(0, *, 1) = 0 1 2 3 4 -1
            bound(3, 4, *) = 8 4 0 0 0
            bars `a(p,q,r,s){for i=1 to p{for j=1 to q{for k=1 to r{for l=1 to s{}}}}}b(p,q,r,s){for z=1 to 5{^for i=1 to p{for j=1 to q{for k=1 to r{for l=1 to s{for m=1 to q{}}}}}}}c(p,q,r,s){^for i=1 to q{a(p,q,r,s);}}d(p){a(p,p,p,p);}e(p){for i=1 to p{a(p,p,2,p);}}f(p){^for i=1 to p{a(p,p,p,p);}}` = 6
            bound(0, -1, 2) = 5
            bound(0, *, 0) = 2 3 3 3 1
            bound(0, 4, *) = 1 1 1 1 1
            bound(0, 1, *) = 3 1 0 0 0
            bound(0, 2, *) = 3 1 1 0 0
            bound(0, 3, *) = 3 1 1 1 0
            bound(3, *, 0) = 3 3 3 3 1
            bound(3, *, 1) = 0 1 2 3 4
            """);
    }

    private static void numbersOfStatements() {
        Due.play("with numbers up to 10 to the 12th: what a statement comes to by its calls", """
            bars `a(){t(995);}b(){^t(996);}c(){x=t(994)+e();}d(){x=t(994)+e1();}f(){x=1;^x=t(995)+e1();}g(){join t(994);}h(){^join t(995);}e(){}e1(){x=1;}T` = 10
            bound(0, 0, 0) = 1000000000000
            bound(2, 0, 0) = 999999999999
            bound(3, 0, 0) = 1000000000000
            bound(5, 0, 0) = 1000000000000
            """.replace("T`", T));
        Due.play("with numbers up to 10 to the 12th: what passes by the calls alone, whatever is in the bodies", """
            bars `a(){^if(t(996)){while(1){}}}b(){^for i=1 to t(996)%2{while(1){}}}c(){^lock t(995){while(1){}}}T` = 4
            """.replace("T`", T));
        Due.play("STEPS of a body: what passes as it is added BARS at its node", """
            bars `a(){x=1;t(994);}b(){x=1;^t(995);}c(){t(994);x=1;}d(){t(995);^x=1;}f(){t(994);x=1;^x=2;x=3;}g(){t(995);^if(1){}}h(){t(995);try{}^catch e{}}k(){t(995);^lock 1{}}l(){t(995);^for i=1 to 0{}}T` = 10
            """.replace("T`", T));
        Due.play("an if: the greater one of both bodies' numbers (what it comes to, at TEST)", """
            bars `a(){if(1){t(994);}}b(){^if(1){t(995);}}c(){if(1){}else{t(994);}}d(){^if(1){}else{t(995);}}f(){if(1){t(994);}else{t(994);}}g(){if(t(994)){x=1;}}h(){^if(t(995)){x=1;}}k(){if(1){t(994);^t(0);}}T` = 9
            """.replace("T`", T));
        Due.play("a for: 1, and TURNS times (1 and its body) (what it comes to, at BEGIN)", """
            bars `a(){for z=1 to 1{t(992);}}b(){^for z=1 to 1{t(993);}}c(){^for z=1 to 1{t(995);}}d(){^for z=1 to 2{t(0);}}f(){for z=1 to t(993)%2{}}g(){^for z=1 to t(993)%3{}}h(){^for z=1 to t(994)%2{}}T` = 8
            bound(0, 0, 0) = 1000000000000
            bound(4, 0, 0) = 1000000000000
            """.replace("T`", T));
        Due.play("a try: its bodies and 1 (not 1 for itself; what passes there BARS at its CATCH)", """
            bars `a(){try{t(994);}catch e{}}b(){try{t(995);}^catch e{}}c(){try{}catch e{t(994);}}d(){try{}^catch e{t(995);}}f(){try{t(993);}catch e{x=1;}}g(){try{t(994);}^catch e{x=1;}}h(){try{t(995);}^catch e{t(995);}}k(){try{x=1;^t(995);}catch e{}}T` = 9
            """.replace("T`", T));
        Due.play("a lock: its body and 1 (what it comes to, at LOCK)", """
            bars `a(){lock 1{t(992);}}b(){^lock 1{t(993);}}c(){lock t(993){}}d(){^lock t(994){}}f(){^lock 1{t(995);}}g(){lock 1{x=1;^t(995);}}T` = 7
            """.replace("T`", T));
    }

    private static void numbersOfTerms() {
        Due.play("with numbers up to 10 to the 12th: of each term", """
            bars `a(p){for i=1 to p*1000{for j=1 to 999999996{}}for k=1 to p*1000{}}b(p){for i=1 to p*1000{for j=1 to 999999996{}}^for k=1 to p*1001{}}c(p){s(p);}d(p){^s(p*2);}f(p){s(p);^s(p);}g(p){q(p*1000000);}h(p){^q(p*1000001);}k(){q(999998);}l(){^q(999999);}s(n){for i=1 to n*1000{for j=1 to 999999996{}}}q(n){for i=1 to n{for j=1 to n{}}}` = 11
            bound(0, 1, *) = 1000000000000 1 0 0 0
            bound(0, 0, *) = 4 0 0 0 0
            bound(5, *, 0) = 3 3000000 1000000000000 -1
            bound(7, *, 0) = 999999000001 -1
            """);
        Due.play("an if takes the greater number term by term: none passes that", """
            bars `a(p){if(1){for i=1 to p*1000{for j=1 to 999999996{}}}else{for i=1 to p*1000{for j=1 to 999999996{}}x=1;}}b(p,q){if(1){for i=1 to 1000{for j=1 to 999999996{}}}else{for i=1 to p*1000{for j=1 to 999999996{}}}}` = 2
            bound(0, *, 0) = 4 999999999000 -1
            bound(1, *, 0) = 999999999003 999999999000 -1
            """);
    }

    private static void ups() {
        Due.play("UP: of each sort, by what a for of it comes to", """
            text `a(p){for i=1 to 0{}}b(p){for i=1 to -9{}}c(p){for i=1 to -9+p{}}d(p){for i=1 to p+p+p{}}e(p){for i=1 to p-999999999{}}f(p){for i=1 to 5-3{}}g(p){for i=1 to -5*3{}}h(p){for i=1 to 3*-5{}}k(p){for i=1 to p*2*3{}}l(p){for i=1 to 2*3{}}m(p){for i=1 to 0*p{}}n(p){for i=1 to p*0{}}o(p){for i=1 to p/1{}}q(p){for i=1 to p%1{}}r(p){for i=1 to p%999999999{}}s(p){for i=1 to len nil{}}t(p){for i=1 to nil=p{}}u(p){for i=1 to !nil{}}v(p){for i=1 to -(9){}}w(p){for i=1 to (p)-(9){}}` = 20
            formulas() = 1 -1 1 / 2 0 0 0 0 / 1 -1 1 / 2 0 0 0 0 / 1 -1 2 / 2 0 0 0 0 / 1 1 0 0 0 / 1 -1 2 / 2 0 0 0 0 / 3 1 0 0 0 / 1 -1 2 / 2 0 0 0 0 / 1 1 0 0 0 / 1 -1 1 / 7 0 0 0 0 / 1 -1 1 / 2 0 0 0 0 / 1 -1 1 / 2 0 0 0 0 / 1 -1 2 / 2 0 0 0 0 / 6 1 0 0 0 / 1 -1 1 / 8 0 0 0 0 / 1 -1 1 / 2 0 0 0 0 / 1 -1 1 / 2 0 0 0 0 / 1 -1 2 / 2 0 0 0 0 / 1 1 0 0 0 / 1 -1 1 / 2 0 0 0 0 / 1 -1 1 / 1000000000 0 0 0 0 / 1 -1 1 / 202 0 0 0 0 / 1 -1 1 / 3 0 0 0 0 / 1 -1 1 / 3 0 0 0 0 / 1 -1 1 / 2 0 0 0 0 / 1 -1 2 / 2 0 0 0 0 / 1 1 0 0 0
            """);
        Due.play("UP: a NAME whose second end leans on the next one, through all 16", """
            text `a(){for b=1 to c{}for c=1 to d{}for d=1 to e{}for e=1 to f{}for f=1 to g{}for g=1 to h{}for h=1 to i{}for i=1 to j{}for j=1 to k{}for k=1 to l{}for l=1 to m{}for m=1 to n{}for n=1 to o{}for o=1 to p{}for p=1 to q{}for q=1 to 3{}}` = 1
            bound(0, *, 0) = 80 -1
            """);
        Due.play("calls: through all 24 members, each told behind the one that calls it; and round all 24", """
            text `a(){x=b();}b(){x=c();}c(){x=d();}d(){x=e();}e(){x=f();}f(){x=g();}g(){x=h();}h(){x=i();}i(){x=j();}j(){x=k();}k(){x=l();}l(){x=m();}m(){x=n();}n(){x=o();}o(){x=p();}p(){x=q();}q(){x=r();}r(){x=s();}s(){x=t();}t(){x=u();}u(){x=v();}v(){x=w();}w(){x=x();}x(){x=1;}` = 24
            bound(0, *, 0) = 24 -1
            bound(22, *, 0) = 2 -1
            text `a(){x=b();}b(){x=c();}c(){x=d();}d(){x=e();}e(){x=f();}f(){x=g();}g(){x=h();}h(){x=i();}i(){x=j();}j(){x=k();}k(){x=l();}l(){x=m();}m(){x=n();}n(){x=o();}o(){x=p();}p(){x=q();}q(){x=r();}r(){x=s();}s(){x=t();}t(){x=u();}u(){x=v();}v(){x=w();}w(){x=x();}x(){x=a();}` = 24
            bound(0, -1, *) = 0 4 0
            bound(23, -1, *) = 0 257 0
            """);
        Due.play("UP: a NAME that is no parameter and set by one for alone: UP of that one's second end", """
            bars `a(p){for i=1 to p{}for j=1 to i+1{}}b(p){for j=1 to i{}for i=1 to p{}}c(p){for i=1 to 3{}^for j=1 to i{}i=1;}d(p){for i=1 to 3{}^for j=1 to i{}for i=1 to 3{}}e(p){for i=1 to 3{}^for j=1 to i{}try{}catch i{}}f(p){for p=1 to 3{^for j=1 to p{}}}g(p){^for i=1 to i{}}h(p){for j=1 to 2{for k=1 to j{for l=1 to k{}}}}` = 8
            bound(0, *, 0) = 5 2 -1
            bound(1, *, 0) = 4 2 -1
            bound(7, *, 0) = 28 -1
            """);
    }

    private static void noUps() {
        Due.play("else there is none: a for the end of which has no UP BARS (at BEGIN)", """
            bars `var v;a(p){^for i=1 to v{}}b(p){^for i=1 to nil{}}c(p){^for i=1 to -p{}}d(p){^for i=1 to - -3{}}e(p){^for i=1 to -(3+1){}}f(p){^for i=1 to 5-p{}}g(p){^for i=1 to p- -5{}}h(p){^for i=1 to p-(5+1){}}k(p){^for i=1 to p*p{}}l(p){^for i=1 to p*(2+3){}}m(p){^for i=1 to 2*3*p{}}n(p){^for i=1 to p/0{}}o(p){^for i=1 to p/-2{}}q(p){^for i=1 to 6/p{}}r(p){^for i=1 to p%0{}}s(p){^for i=1 to p%p{}}t(p){^for i=1 to p[0]{}}u(p){^for i=1 to u1(){}}u1(){}w(p){^for i=1 to start u1(){}}x(p){^for i=1 to new[1]{}}` = 21
            """);
        Due.play("and none of what would pass those numbers; what these sentences don't ask for doesn't matter", """
            bars `a(p){for i=1 to (999999999*1000+1000)*0{}}b(p){^for i=1 to (999999999*1000+1001)*0{}}c(p){for i=1 to (p*999999999*1000+p*1000)*0{}}d(p){^for i=1 to (p*999999999*1000+p*1001)*0{}}e(p){^for i=1 to 0*(p*999999999*1001){}}f(p){for i=1 to (p*999999999*1001)%5{}}g(p){for i=1 to len (p*999999999*1001){}}h(p){for i=1 to (999999999*1000+1001)>nil{}}k(p){^for i=1 to 0*nil{}}l(p){^for i=1 to nil*0{}}m(p){for i=1 to (p/0)%3{}}n(p){^for i=1 to (999999999*1000+1001)/2{}}o(p){for i=1 to (1000000*1000000)*0{}}q(p){^for i=1 to (1000000*1000001)*0{}}` = 14
            bound(0, *, 0) = 2 -1
            bound(5, *, 0) = 6 -1
            """);
    }

    private static void turns() {
        Due.play("TURNS: a a NUMBER: UP of b, and 1 if a is 0; a - NUMBER: UP of b, that number, and 1; else it BARS", """
            bars `a(p){for i=0 to p{}}b(p){for i=000 to 7{}}c(p){for i=1 to 7{}}d(p){for i=999999999 to 7{}}e(p){for i=-0 to 7{}}f(p){for i=-1 to 7{}}g(p){for i=-999999999 to -7{}}h(p){for i=(-(1)) to p{}}k(p){^for i=p to 7{}}l(p){^for i=1+1 to 7{}}m(p){^for i=- -1 to 7{}}n(p){^for i=nil to 7{}}o(p){^for i=!1 to 7{}}q(p){^for i=2*3 to 7{}}r(p){for j=1 to 3{^for i=j to 7{}}}` = 15
            bound(0, *, 0) = 3 1 -1
            bound(1, *, 0) = 10 -1
            bound(2, *, 0) = 9 -1
            bound(3, *, 0) = 9 -1
            bound(4, *, 0) = 10 -1
            bound(5, *, 0) = 11 -1
            bound(6, *, 0) = 1000000002 -1
            bound(7, *, 0) = 4 1 -1
            """);
    }

    private static void neverDone() {
        Due.play("no more does the body of a for whose TURNS are 0 (matter), but by what BARS in it", """
            bars `a(p){for z=1 to 0{t(995);}}b(p){for z=1 to p%1{t(995);}}c(p){for z=1 to -5{t(995);^x=1;}}d(p){for z=1 to 0{f(p);}}e(p){for z=1 to 0{^while(1){}}}f(p){for i=1 to p{for j=1 to p{for k=1 to p{for l=1 to p{}}}}}g(p){^for z=0 to 0{t(995);}}h(p){for z=1 to 0*p{^h(p);}}k(p){for z=1 to 0{^f(nil);}}T` = 10
            bound(0, *, 0) = 2 -1
            bound(1, *, 0) = 2 -1
            bound(3, *, 0) = 2 -1
            """.replace("T`", T));
    }

    private static void calls() {
        Due.play("calls: with UP of its arguments for its x (a term with one that is 0 is nothing), not starts", """
            bars `a(){q(0,999999999);}b(){^q(1,999999999);}c(){q(2,3);}d(p){q(p-5,len p);}e(p){x=start q(nil,nil);}f(p){x=start q(q(1,1),nil);}g(p){^q(nil,0);}h(p){^q(0,nil);}k(p){q1(nil,p);}l(p){^q1(p,nil);}q(m,n){for i=1 to m{for j=1 to n{for k=1 to n{}}}}q1(m,n){for i=1 to n{}}` = 12
            bound(0, *, 0) = 3 -1
            bound(2, *, 0) = 45 -1
            bound(3, *, 0) = 3 40603 -1
            bound(4, *, 0) = 1 -1
            bound(5, *, 0) = 10 -1
            bound(8, *, 0) = 3 1 -1
            """);
        Due.play("a call of a member that has no formula or by which a member would call itself again", """
            bars `a(){x=1;^b();}b(){x=1;x=2;^while(0){}}c(){^c();}d(){if(0){^e();}}e(){^x=f();}f(){x=1;^return d();}g(){x=start g();}h(){x=start b();}k(p){^x=b()+k(1);}l(){^x=start c1(b());}c1(n){}` = 11
            """);
        Due.play("The first node by text that BARS is told", """
            bars `a(p){x=1;^while(1){while(1){}}while(1){}}b(p){^for i=1 to nil{while(1){}}}c(p){if(1){x=1;}else{^while(1){}}while(1){}}d(p){try{^while(1){}}catch e{while(1){}}}e(p){lock 1{^while(1){}}}f(p){^if(a(1)){while(1){}}}g(p){^while(a(1)){}}h(p){for i=1 to p{^a(i);}a(1);}` = 8
            """);
    }

    private static void asked() {
        Due.play("Promise 34: NONE for others; 0 without (terms); i NONE: the place of the node that BARS (NONE)", """
            bound(0, -1, 0) = -1
            outside bound(0..-1, -1..0, 0..4) = -1
            text `a(p){for i=1 to p{}}b(){while(1){}}c(){}` = 3
            outside bound(0..2, -1..1, 0..4) = -1
            bound(0, -1, *) = 1 -1 2 -1 -1 -1
            bound(0, 0, *) = 2 0 0 0 0 -1
            bound(0, 1, *) = 1 1 0 0 0 -1
            bound(0, 2, *) = -1 -1 -1 -1 -1 -1
            bound(0, 0, -1) = -1
            bound(0, -2, 0) = -1
            bound(1, -1, *) = 0 24 0 -1
            bound(1, 0, *) = -1 -1 -1 -1 -1
            bound(2, -1, *) = 1 -1 0 -1
            bound(2, 0, *) = -1 -1 -1 -1 -1
            bound(0, 2147483647, 0) = -1
            bound(0, -2147483648, 0) = -1
            bound(0, 0, 2147483647) = -1
            bound(0, 0, -2147483648) = -1
            """);
    }

    private static void worst() {
        Due.play("Promise 35: at most 10 to the 15th (more is told as that)", """
            text `a(p,q){for i=1 to p*1000{for j=1 to 999999996{}}for k=1 to q{}}b(){while(1){}}c(){}` = 3
            worst(0, 1000, 999995, 0, 0) = 999999999999999
            worst(0, 1000, 999996, 0, 0) = 1000000000000000
            worst(0, 1000, 999997, 0, 0) = 1000000000000000
            worst(0, 1001, 0, 0, 0) = 1000000000000000
            worst(0, 2147483647, 2147483647, 2147483647, 2147483647) = 1000000000000000
            worst(0, 0, 2147483647, 0, 0) = 2147483651
            worst(0, 0, 0, 0, 0) = 4
            worst(2, 9, 9, 9, 9) = 0
            text `a(p,q){for i=1 to p*465661{for j=1 to q{}}}` = 1
            worst(0, 1, 2147483647, 0, 0) = 999999383942652
            worst(0, 2, 2147483647, 0, 0) = 1000000000000000
            """);
        Due.play("Promise 35: 0 for one below 0; those beyond its parameters don't count; NONE without", """
            worst(0, 0, 0, 0, 0) = -1
            text `a(p,q){for i=1 to p{for j=0 to q{}}}b(){while(1){}}c(){x=1;}` = 3
            worst(0, 3, 4, 0, 0) = 26
            worst(0, 3, 4, 2147483647, 2147483647) = 26
            worst(0, 3, -1, -1, -1) = 14
            worst(0, 3, -2147483648, 0, 0) = 14
            worst(0, 3, 0, 0, 0) = 14
            worst(0, -1, 4, 0, 0) = 2
            worst(0, -2147483648, 2147483647, 0, 0) = 2
            worst(1, 0, 0, 0, 0) = -1
            worst(2, -1, 5, 5, 5) = 1
            worst(3, 0, 0, 0, 0) = -1
            worst(-1, 0, 0, 0, 0) = -1
            worst(2147483647, 0, 0, 0, 0) = -1
            worst(-2147483648, 0, 0, 0, 0) = -1
            """);
        Due.play("Promise 35: of degree 4, a factor of 0 makes nothing of a term that is too great by itself", """
            text `a(p,q,r,s){for i=1 to p{for j=1 to p{for k=1 to p{for l=1 to s{}}}}}` = 1
            worst(0, 2147483647, 0, 0, 0) = 1000000000000000
            worst(0, 99999, 0, 0, -1) = 1000000000000000
            worst(0, 100, 9, 9, 0) = 3030302
            worst(0, 100, 9, 9, 1) = 4030302
            worst(0, 100, 0, 0, 2147483647) = 1000000000000000
            worst(0, 0, 0, 0, 2147483647) = 2
            """);
    }
}
